theorem u_X0_heightOver_0 : ∀ w ∈ u_ws RX0 TX0 7, w ∈ wsX0_heightOver := by decide +kernel
theorem k_X0_heightOver_9 : Cond.fieldLink yX0_heightOver.cls 9 (TX0 0).1 (TX0 0).2.1 (TX0 0).2.2.1 ∈ wsX0_heightOver := by decide +kernel
set_option maxRecDepth 100000 in
set_option maxHeartbeats 4000000 in
theorem c_X0_heightOver (l : Launch) (D : va_G) {ad : Nat → Nat} (cA : Nat → ClassId) (had : adok ad) (M : Mem) (x y w : Int) (hx : 0 ≤ x ∧ x ≤ 100) (hy : 0 ≤ y ∧ y ≤ 100) (hw : 0 ≤ w ∧ w ≤ 100) : CtI l yX0_heightOver wsX0_heightOver 0 0 D ad cA [.ref (ad 100), .int (zI x), .int (zI y), .int (zI w)] M (fun z M1 => z = hgt (vM M) x y w ∧ M1 = M) := by
  refine CtI.of (cc := cX0_heightOver) (maxL := 4) (ret := (some .int)) had (by decide) rfl (Nat.le_of_ble_eq_true rfl) ?_
  intro p e s m args below meth c X hm
  show VV p l e { frames := 0, cells := 0, slots := 0, locals := 0 } s m args below meth c 4 D ad cA (Afr ad s.heap.size) 0 0 (QI below args s D ad cA (fun z M1 => z = hgt (vM M) x y w ∧ M1 = M)) M 0 [(0, .ref (ad 100)), (1, .int (zI x)), (2, .int (zI y)), (3, .int (zI w))] []
  refine vv_aload_n X 0 rfl rfl dX0_heightOver_0 ?_
  refine vv_getr (Nf := 7) (ref := (TX0 0).1) X (by decide) sh_100 rfl 0 (by decide) u_X0_heightOver_0 k_X0_heightOver_9 rfl rfl dX0_heightOver_1 ?_
  refine vv_iload_n X 2 rfl rfl dX0_heightOver_4 ?_
  refine vv_iald (z := (M 101 (Int.toNat y))) X (by decide) sh_101 (by decide) (by omega) (rfl) dX0_heightOver_5 ?_
  refine vv_aload_n X 0 rfl rfl dX0_heightOver_6 ?_
  refine vv_getr (Nf := 7) (ref := (TX0 0).1) X (by decide) sh_100 rfl 0 (by decide) u_X0_heightOver_0 k_X0_heightOver_9 rfl rfl dX0_heightOver_7 ?_
  refine vv_iload_n X 1 rfl rfl dX0_heightOver_10 ?_
  refine vv_iald (z := (M 101 (Int.toNat x))) X (by decide) sh_101 (by decide) (by omega) (rfl) dX0_heightOver_11 ?_
  refine vv_isub X dX0_heightOver_12 ?_
  refine vv_iload_n X 3 rfl rfl dX0_heightOver_13 ?_
  refine vv_iload_n X 1 rfl rfl dX0_heightOver_14 ?_
  refine vv_isub X dX0_heightOver_15 ?_
  refine vv_imul X dX0_heightOver_16 ?_
  refine vv_aload_n X 0 rfl rfl dX0_heightOver_17 ?_
  refine vv_getr (Nf := 7) (ref := (TX0 0).1) X (by decide) sh_100 rfl 0 (by decide) u_X0_heightOver_0 k_X0_heightOver_9 rfl rfl dX0_heightOver_18 ?_
  refine vv_iload_n X 3 rfl rfl dX0_heightOver_21 ?_
  refine vv_iald (z := (M 101 (Int.toNat w))) X (by decide) sh_101 (by decide) (by omega) (rfl) dX0_heightOver_22 ?_
  refine vv_aload_n X 0 rfl rfl dX0_heightOver_23 ?_
  refine vv_getr (Nf := 7) (ref := (TX0 0).1) X (by decide) sh_100 rfl 0 (by decide) u_X0_heightOver_0 k_X0_heightOver_9 rfl rfl dX0_heightOver_24 ?_
  refine vv_iload_n X 1 rfl rfl dX0_heightOver_27 ?_
  refine vv_iald (z := (M 101 (Int.toNat x))) X (by decide) sh_101 (by decide) (by omega) (rfl) dX0_heightOver_28 ?_
  refine vv_isub X dX0_heightOver_29 ?_
  refine vv_iload_n X 2 rfl rfl dX0_heightOver_30 ?_
  refine vv_iload_n X 1 rfl rfl dX0_heightOver_31 ?_
  refine vv_isub X dX0_heightOver_32 ?_
  refine vv_imul X dX0_heightOver_33 ?_
  refine vv_isub X dX0_heightOver_34 ?_
  exact vv_iret X hm (⟨rfl, rfl⟩) dX0_heightOver_35
theorem u_X0_draw_0 : ∀ w ∈ u_ws RX0 TX0 7, w ∈ wsX0_draw := by decide +kernel
theorem k_X0_draw_9 : Cond.fieldLink yX0_draw.cls 9 (TX0 0).1 (TX0 0).2.1 (TX0 0).2.2.1 ∈ wsX0_draw := by decide +kernel
theorem k_X0_draw_15 : Cond.fieldLink yX0_draw.cls 15 (TX0 1).1 (TX0 1).2.1 (TX0 1).2.2.1 ∈ wsX0_draw := by decide +kernel
theorem k_X0_draw_18 : Cond.fieldLink yX0_draw.cls 18 (TX0 2).1 (TX0 2).2.1 (TX0 2).2.2.1 ∈ wsX0_draw := by decide +kernel
set_option maxRecDepth 100000 in
set_option maxHeartbeats 4000000 in
theorem c_X0_draw (l : Launch) (D : va_G) {ad : Nat → Nat} (cA : Nat → ClassId) (had : adok ad) (M : Mem) (hW : cWR M) : CtV l yX0_draw wsX0_draw 2 47 D ad cA [.ref (ad 100), .ref (ad 1)] M (fun M1 => eqx M M1 [100, 101, 102] ∧ (∀ y : Nat, y ≤ 100 → M1 101 y = cvl M (y : Int)) ∧ Hull (vM M1) (M1 102) (M1 100 2).toNat 100 ∧ 0 ≤ M1 100 2) := by
  refine CtV.of (cc := cX0_draw) (maxL := 3) (ret := none) had (by decide) rfl (Nat.le_of_ble_eq_true rfl) ?_
  intro p e s m args below meth c X hm
  show VV p l e { frames := 2, cells := 0, slots := 0, locals := 47 } s m args below meth c 3 D ad cA (Afr ad s.heap.size) 0 0 (QV below args s D ad cA (fun M1 => eqx M M1 [100, 101, 102] ∧ (∀ y : Nat, y ≤ 100 → M1 101 y = cvl M (y : Int)) ∧ Hull (vM M1) (M1 102) (M1 100 2).toNat 100 ∧ 0 ≤ M1 100 2)) M 0 [(0, .ref (ad 100)), (1, .ref (ad 1))] []
  refine vv_aload_n X 0 rfl rfl dX0_draw_0 ?_
  refine vv_iconst (n := 0) X dX0_draw_1 ?_
  refine vv_puti (Nf := 7) (ref := (TX0 2).1) X (by decide) sh_100 rfl 2 (by decide) u_X0_draw_0 k_X0_draw_18 rfl tyX0_ok nmX0 rfl (by decide +kernel) rfl rfl dX0_draw_2 ?_
  refine vv_iconst (n := 0) X dX0_draw_5 ?_
  refine vv_istore_n (lv' := [(2, .int (zI 0)), (0, .ref (ad 100)), (1, .ref (ad 1))]) X rfl (by decide) rfl dX0_draw_6 ?_
  have loop_7 : ∀ (n : Nat) (M_7 : Mem) (a2 : Int), 0 ≤ a2 ∧ a2 ≤ 101 → eqx M M_7 [100, 101, 102] → (∀ y : Nat, (y : Int) < a2 → M_7 101 y = cvl M (y : Int)) → 0 ≤ M_7 100 2 → (a2 = 0 → M_7 100 2 = 0) → (0 < a2 → Hull (vM M_7) (M_7 102) (M_7 100 2).toNat (a2 - 1)) → (101 - a2).toNat < n → VV p l e { frames := 2, cells := 0, slots := 0, locals := 47 } s m args below meth c 3 D ad cA (Afr ad s.heap.size) 0 0 (QV below args s D ad cA (fun M1 => eqx M M1 [100, 101, 102] ∧ (∀ y : Nat, y ≤ 100 → M1 101 y = cvl M (y : Int)) ∧ Hull (vM M1) (M1 102) (M1 100 2).toNat 100 ∧ 0 ≤ M1 100 2)) M_7 7 [(0, .ref (ad 100)), (1, .ref (ad 1)), (2, .int (zI a2))] [] := by
    intro n
    induction n with
    | zero => intro M_7 a2 h2 hE hV hnn h0 hH hn; exact absurd hn (Nat.not_lt_zero _)
    | succ n ih_7 =>
      intro M_7 a2 h2 hE hV hnn h0 hH hn
      have hWw : cWR M_7 := by
        have e1 := hE 1 (by decide)
        have e2 := hE 2 (by decide)
        have e3 := hE 3 (by decide)
        have e4 := hE 4 (by decide)
        have e5 := hE 5 (by decide)
        unfold cWR
        rw [e1, e2, e3, e4, e5]
        exact hW
      have hcv : ∀ x, cvl M_7 x = cvl M x := fun x => by
        have e1 := hE 1 (by decide)
        have e2 := hE 2 (by decide)
        have e3 := hE 3 (by decide)
        have e4 := hE 4 (by decide)
        have e5 := hE 5 (by decide)
        unfold cvl
        rw [e1, e2, e3, e4, e5]
      refine vv_iload_n X 2 rfl rfl dX0_draw_7 ?_
      refine vv_bipush (n := 100) X (by decide) dX0_draw_8 ?_
      refine vv_icmp_gt (tgt := 101) X (by omega) (by omega) dX0_draw_10 (by decide) (fun c_10 => ?_) (fun c_10 => ?_)
      · skip
        exact vv_vret X hm (⟨hE, fun y hy => hV y (by omega), by have := hH (by omega); rw [show a2 - 1 = 100 by omega] at this; exact this, hnn⟩) dX0_draw_101
      · skip
        refine vv_aload_n X 0 rfl rfl dX0_draw_13 ?_
        refine vv_getr (Nf := 7) (ref := (TX0 0).1) X (by decide) sh_100 rfl 0 (by decide) u_X0_draw_0 k_X0_draw_9 rfl rfl dX0_draw_14 ?_
        refine vv_iload_n X 2 rfl rfl dX0_draw_17 ?_
        refine vv_aload_n X 1 rfl rfl dX0_draw_18 ?_
        refine vv_iload_n X 2 rfl rfl dX0_draw_19 ?_
        refine vv_callVI (As := [.int (zI a2)]) (st := [.int (zI a2), .ref (ad 101)]) (Nf := 5) X 1 (c_X5_valueAt l D cA had M_7 a2 (by omega) (hWw)) gX0_draw_X5_valueAt rfl (by decide +kernel) ⟨by decide, by decide⟩ (Nat.le_of_ble_eq_true rfl) ⟨by decide, by decide⟩ rfl (by decide) sh_1 rfl rfl dX0_draw_20 (fun z20 Mc20 q_20 => ?_)
        obtain ⟨e_z20, g_z20⟩ := q_20
        have g_z20 := g_z20.symm
        subst g_z20
        refine vv_iast (ix := (Int.toNat a2)) X (by decide) sh_101 (by decide) (by omega) (rfl) dX0_draw_23 ?_
        have loop_24 : ∀ (n : Nat) (M_24 : Mem) , eqx M M_24 [100, 101, 102] → (∀ y : Nat, (y : Int) < a2 + 1 → M_24 101 y = cvl M (y : Int)) → 0 ≤ M_24 100 2 → (a2 = 0 → M_24 100 2 = 0) → (0 < a2 → HullP (vM M_24) (M_24 102) (M_24 100 2).toNat a2) → (M_24 100 2).toNat < n → VV p l e { frames := 2, cells := 0, slots := 0, locals := 47 } s m args below meth c 3 D ad cA (Afr ad s.heap.size) 0 0 (QV below args s D ad cA (fun M1 => eqx M M1 [100, 101, 102] ∧ (∀ y : Nat, y ≤ 100 → M1 101 y = cvl M (y : Int)) ∧ Hull (vM M1) (M1 102) (M1 100 2).toNat 100 ∧ 0 ≤ M1 100 2)) M_24 24 [(0, .ref (ad 100)), (1, .ref (ad 1)), (2, .int (zI a2))] [] := by
          intro n
          induction n with
          | zero => intro M_24 gE gV gn g0 gH hn; exact absurd hn (Nat.not_lt_zero _)
          | succ n ih_24 =>
            intro M_24 gE gV gn g0 gH hn
            have gv : ∀ y : Int, (0 ≤ y ∧ y ≤ a2) → vM M_24 y = cvl M y := fun y hy => by
              have := gV y.toNat (by omega)
              rw [show ((y.toNat : Nat) : Int) = y by omega] at this
              exact this
            have gvb : ∀ y : Int, (0 ≤ y ∧ y ≤ a2) → -990 ≤ vM M_24 y ∧ vM M_24 y ≤ 990 := fun y hy => by
              rw [gv y hy]
              have := vl_b (x := y) hW.2
              unfold cvl
              omega
            have gnb : M_24 100 2 ≤ a2 := by
              rcases (show a2 = 0 ∨ 0 < a2 by omega) with q | q
              · have := g0 q; omega
              · have := (gH q).1; omega
            refine vv_aload_n X 0 rfl rfl dX0_draw_24 ?_
            refine vv_geti (Nf := 7) (ref := (TX0 2).1) (z := (M_24 100 2)) X (by decide) sh_100 rfl 2 (by decide) u_X0_draw_0 k_X0_draw_18 rfl rfl (rfl) dX0_draw_25 ?_
            refine vv_iconst (n := 1) X dX0_draw_28 ?_
            refine vv_icmp_le (tgt := 75) X (by omega) (by omega) dX0_draw_29 (by decide) (fun c_29 => ?_) (fun c_29 => ?_)
            · skip
              refine vv_aload_n X 0 rfl rfl dX0_draw_75 ?_
              refine vv_getr (Nf := 7) (ref := (TX0 1).1) X (by decide) sh_100 rfl 1 (by decide) u_X0_draw_0 k_X0_draw_15 rfl rfl dX0_draw_76 ?_
              refine vv_aload_n X 0 rfl rfl dX0_draw_79 ?_
              refine vv_geti (Nf := 7) (ref := (TX0 2).1) (z := (M_24 100 2)) X (by decide) sh_100 rfl 2 (by decide) u_X0_draw_0 k_X0_draw_18 rfl rfl (rfl) dX0_draw_80 ?_
              refine vv_iload_n X 2 rfl rfl dX0_draw_83 ?_
              refine vv_iast (ix := (Int.toNat (M_24 100 2))) X (by decide) sh_102 (by decide) (by omega) (rfl) dX0_draw_84 ?_
              refine vv_aload_n X 0 rfl rfl dX0_draw_85 ?_
              refine vv_dup X rfl dX0_draw_86 ?_
              refine vv_geti (Nf := 7) (ref := (TX0 2).1) (z := (M_24 100 2)) X (by decide) sh_100 rfl 2 (by decide) u_X0_draw_0 k_X0_draw_18 rfl rfl (rfl) dX0_draw_87 ?_
              refine vv_iconst (n := 1) X dX0_draw_90 ?_
              refine vv_iadd X dX0_draw_91 ?_
              refine vv_puti (Nf := 7) (ref := (TX0 2).1) X (by decide) sh_100 rfl 2 (by decide) u_X0_draw_0 k_X0_draw_18 rfl tyX0_ok nmX0 rfl (by decide +kernel) rfl rfl dX0_draw_92 ?_
              refine vv_iinc (lv' := [(2, .int (zI (a2 + 1))), (0, .ref (ad 100)), (1, .ref (ad 1))]) X 2 rfl (by decide) rfl dX0_draw_95 ?_
              refine vv_goto (tgt := 7) X (by decide) dX0_draw_98 ?_
              refine vv_sub (lv' := [(0, .ref (ad 100)), (1, .ref (ad 1)), (2, .int (zI (a2 + 1)))]) [1, 2, 0] rfl ?_
              exact ih_7 (up2 (up2 M_24 102 (Int.toNat (M_24 100 2)) a2) 100 2 ((M_24 100 2) + 1)) (a2 + 1) (by omega) (eqx_up _ _ (eqx_up _ _ gE (by decide)) (by decide)) (fun y hy => gV y (by omega)) (by rw [up2_s]; omega) (fun q => absurd q (by omega)) (fun _ => Hull_next (v := vM M_24) (c := M_24 102) gn (by omega) g0 gH (by first | exact Or.inl c_29 | exact Or.inr (by rw [← e_z56]; exact c_59))) (by omega)
            · skip
              refine vv_aload_n X 0 rfl rfl dX0_draw_32 ?_
              refine vv_aload_n X 0 rfl rfl dX0_draw_33 ?_
              refine vv_getr (Nf := 7) (ref := (TX0 1).1) X (by decide) sh_100 rfl 1 (by decide) u_X0_draw_0 k_X0_draw_15 rfl rfl dX0_draw_34 ?_
              refine vv_aload_n X 0 rfl rfl dX0_draw_37 ?_
              refine vv_geti (Nf := 7) (ref := (TX0 2).1) (z := (M_24 100 2)) X (by decide) sh_100 rfl 2 (by decide) u_X0_draw_0 k_X0_draw_18 rfl rfl (rfl) dX0_draw_38 ?_
              refine vv_iconst (n := 2) X dX0_draw_41 ?_
              refine vv_isub X dX0_draw_42 ?_
              refine vv_iald (z := (M_24 102 (Int.toNat ((M_24 100 2) - 2)))) X (by decide) sh_102 (by decide) (by omega) (rfl) dX0_draw_43 ?_
              refine vv_aload_n X 0 rfl rfl dX0_draw_44 ?_
              refine vv_getr (Nf := 7) (ref := (TX0 1).1) X (by decide) sh_100 rfl 1 (by decide) u_X0_draw_0 k_X0_draw_15 rfl rfl dX0_draw_45 ?_
              refine vv_aload_n X 0 rfl rfl dX0_draw_48 ?_
              refine vv_geti (Nf := 7) (ref := (TX0 2).1) (z := (M_24 100 2)) X (by decide) sh_100 rfl 2 (by decide) u_X0_draw_0 k_X0_draw_18 rfl rfl (rfl) dX0_draw_49 ?_
              refine vv_iconst (n := 1) X dX0_draw_52 ?_
              refine vv_isub X dX0_draw_53 ?_
              refine vv_iald (z := (M_24 102 (Int.toNat ((M_24 100 2) - 1)))) X (by decide) sh_102 (by decide) (by omega) (rfl) dX0_draw_54 ?_
              refine vv_iload_n X 2 rfl rfl dX0_draw_55 ?_
              have ha0 : 0 < a2 := by
                rcases (show a2 = 0 ∨ 0 < a2 by omega) with q | q
                · have := g0 q; omega
                · exact q
              have hr1 := HullP_rng (gH ha0) (j := (M_24 100 2 - 2).toNat) (by omega)
              have hr2 := HullP_rng (gH ha0) (j := (M_24 100 2 - 1).toNat) (by omega)
              refine vv_callVI (As := [.int (zI (M_24 102 (Int.toNat ((M_24 100 2) - 2)))), .int (zI (M_24 102 (Int.toNat ((M_24 100 2) - 1)))), .int (zI a2)]) (st := []) (Nf := 7) X 3 (c_X0_heightOver l D cA had M_24 (M_24 102 (Int.toNat ((M_24 100 2) - 2))) (M_24 102 (Int.toNat ((M_24 100 2) - 1))) a2 (by omega) (by omega) (by omega)) gX0_draw_X0_heightOver rfl (by decide +kernel) ⟨by decide, by decide⟩ (Nat.le_of_ble_eq_true rfl) ⟨by decide, by decide⟩ rfl (by decide) sh_100 rfl rfl dX0_draw_56 (fun z56 Mc56 q_56 => ?_)
              obtain ⟨e_z56, g_z56⟩ := q_56
              have g_z56 := g_z56.symm
              subst g_z56
              have hgb := hgt_b (v := vM M_24) (l := M_24 102 (M_24 100 2 - 2).toNat) (m := M_24 102 (M_24 100 2 - 1).toNat) (r := a2) (by omega) (by omega) (by omega) (gvb _ (by omega)) (gvb _ (by omega)) (gvb _ (by omega))
              rw [← e_z56] at hgb
              refine vv_if_gt (tgt := 75) X (by omega) dX0_draw_59 (by decide) (fun c_59 => ?_) (fun c_59 => ?_)
              · skip
                refine vv_aload_n X 0 rfl rfl dX0_draw_75 ?_
                refine vv_getr (Nf := 7) (ref := (TX0 1).1) X (by decide) sh_100 rfl 1 (by decide) u_X0_draw_0 k_X0_draw_15 rfl rfl dX0_draw_76 ?_
                refine vv_aload_n X 0 rfl rfl dX0_draw_79 ?_
                refine vv_geti (Nf := 7) (ref := (TX0 2).1) (z := (M_24 100 2)) X (by decide) sh_100 rfl 2 (by decide) u_X0_draw_0 k_X0_draw_18 rfl rfl (rfl) dX0_draw_80 ?_
                refine vv_iload_n X 2 rfl rfl dX0_draw_83 ?_
                refine vv_iast (ix := (Int.toNat (M_24 100 2))) X (by decide) sh_102 (by decide) (by omega) (rfl) dX0_draw_84 ?_
                refine vv_aload_n X 0 rfl rfl dX0_draw_85 ?_
                refine vv_dup X rfl dX0_draw_86 ?_
                refine vv_geti (Nf := 7) (ref := (TX0 2).1) (z := (M_24 100 2)) X (by decide) sh_100 rfl 2 (by decide) u_X0_draw_0 k_X0_draw_18 rfl rfl (rfl) dX0_draw_87 ?_
                refine vv_iconst (n := 1) X dX0_draw_90 ?_
                refine vv_iadd X dX0_draw_91 ?_
                refine vv_puti (Nf := 7) (ref := (TX0 2).1) X (by decide) sh_100 rfl 2 (by decide) u_X0_draw_0 k_X0_draw_18 rfl tyX0_ok nmX0 rfl (by decide +kernel) rfl rfl dX0_draw_92 ?_
                refine vv_iinc (lv' := [(2, .int (zI (a2 + 1))), (0, .ref (ad 100)), (1, .ref (ad 1))]) X 2 rfl (by decide) rfl dX0_draw_95 ?_
                refine vv_goto (tgt := 7) X (by decide) dX0_draw_98 ?_
                refine vv_sub (lv' := [(0, .ref (ad 100)), (1, .ref (ad 1)), (2, .int (zI (a2 + 1)))]) [1, 2, 0] rfl ?_
                exact ih_7 (up2 (up2 M_24 102 (Int.toNat (M_24 100 2)) a2) 100 2 ((M_24 100 2) + 1)) (a2 + 1) (by omega) (eqx_up _ _ (eqx_up _ _ gE (by decide)) (by decide)) (fun y hy => gV y (by omega)) (by rw [up2_s]; omega) (fun q => absurd q (by omega)) (fun _ => Hull_next (v := vM M_24) (c := M_24 102) gn (by omega) g0 gH (by first | exact Or.inl c_29 | exact Or.inr (by rw [← e_z56]; exact c_59))) (by omega)
              · skip
                refine vv_aload_n X 0 rfl rfl dX0_draw_62 ?_
                refine vv_dup X rfl dX0_draw_63 ?_
                refine vv_geti (Nf := 7) (ref := (TX0 2).1) (z := (M_24 100 2)) X (by decide) sh_100 rfl 2 (by decide) u_X0_draw_0 k_X0_draw_18 rfl rfl (rfl) dX0_draw_64 ?_
                refine vv_iconst (n := 1) X dX0_draw_67 ?_
                refine vv_isub X dX0_draw_68 ?_
                refine vv_puti (Nf := 7) (ref := (TX0 2).1) X (by decide) sh_100 rfl 2 (by decide) u_X0_draw_0 k_X0_draw_18 rfl tyX0_ok nmX0 rfl (by decide +kernel) rfl rfl dX0_draw_69 ?_
                refine vv_goto (tgt := 24) X (by decide) dX0_draw_72 ?_
                refine vv_sub (lv' := [(0, .ref (ad 100)), (1, .ref (ad 1)), (2, .int (zI a2))]) [0, 1, 2] rfl ?_
                exact ih_24 (up2 M_24 100 2 ((M_24 100 2) - 1)) (eqx_up _ _ gE (by decide)) gV (by rw [up2_s]; omega) (fun q => absurd q (by omega)) (fun q => by
                  have hp := HullP_pop (gH q) (by omega) (by rw [show (M_24 100 2).toNat - 2 = (M_24 100 2 - 2).toNat by omega, show (M_24 100 2).toNat - 1 = (M_24 100 2 - 1).toNat by omega, ← e_z56]; omega)
                  rw [show (M_24 100 2).toNat - 1 = (up2 M_24 100 2 (M_24 100 2 - 1) 100 2).toNat by rw [up2_s]; omega] at hp
                  exact hp) (by rw [up2_s]; omega)
        refine vv_sub (lv' := [(0, .ref (ad 100)), (1, .ref (ad 1)), (2, .int (zI a2))]) [0, 1, 2] rfl ?_
        exact loop_24 _ (up2 M_7 101 (Int.toNat a2) z20) (eqx_up _ _ hE (by decide)) (fun y hy => by
          by_cases q : y = a2.toNat
          · rw [q, up2_s, e_z20, hcv]
            congr 1
            omega
          · rw [up2_m _ _ _ q]
            exact hV y (by omega)) (by rw [up2_n _ _ _ (by decide)]; exact hnn) (fun q => by rw [up2_n _ _ _ (by decide)]; exact h0 q) (fun q => by
          have h := Hull_P (Hull_cong (u := vM (up2 M_7 101 a2.toNat z20)) (hH q) (fun y hy1 hy2 => (up2_m M_7 101 (k := a2.toNat) (b := y.toNat) z20 (by omega)).symm))
          rw [show a2 - 1 + 1 = a2 by omega] at h
          exact h) (Nat.lt_succ_self _)
  refine vv_sub (lv' := [(0, .ref (ad 100)), (1, .ref (ad 1)), (2, .int (zI 0))]) [1, 2, 0] rfl ?_
  exact loop_7 _ (up2 M 100 2 0) 0 (by omega) (eqx_up _ _ (eqx_rf _ _) (by decide)) (fun y hy => absurd hy (by omega)) (by rw [up2_s]; omega) (fun _ => up2_s _ _ _ _) (fun q => absurd q (by omega)) (Nat.lt_succ_self _)
theorem u_X0_aim_0 : ∀ w ∈ u_ws RX0 TX0 7, w ∈ wsX0_aim := by decide +kernel
theorem k_X0_aim_15 : Cond.fieldLink yX0_aim.cls 15 (TX0 1).1 (TX0 1).2.1 (TX0 1).2.2.1 ∈ wsX0_aim := by decide +kernel
theorem k_X0_aim_18 : Cond.fieldLink yX0_aim.cls 18 (TX0 2).1 (TX0 2).2.1 (TX0 2).2.2.1 ∈ wsX0_aim := by decide +kernel
theorem k_X0_aim_22 : Cond.fieldLink yX0_aim.cls 22 (TX0 3).1 (TX0 3).2.1 (TX0 3).2.2.1 ∈ wsX0_aim := by decide +kernel
theorem k_X0_aim_25 : Cond.fieldLink yX0_aim.cls 25 (TX0 4).1 (TX0 4).2.1 (TX0 4).2.2.1 ∈ wsX0_aim := by decide +kernel
theorem k_X0_aim_28 : Cond.fieldLink yX0_aim.cls 28 (TX0 5).1 (TX0 5).2.1 (TX0 5).2.2.1 ∈ wsX0_aim := by decide +kernel
theorem k_X0_aim_31 : Cond.fieldLink yX0_aim.cls 31 (TX0 6).1 (TX0 6).2.1 (TX0 6).2.2.1 ∈ wsX0_aim := by decide +kernel
set_option maxRecDepth 100000 in
set_option maxHeartbeats 4000000 in
theorem c_X0_aim (l : Launch) (D : va_G) {ad : Nat → Nat} (cA : Nat → ClassId) (had : adok ad) (M : Mem) (x : Int) (hx : 0 ≤ x ∧ x ≤ 100) (hn : 0 ≤ M 100 2) (hH : Hull (vM M) (M 102) (M 100 2).toNat 100) (hv : ∀ y : Int, (0 ≤ y ∧ y ≤ 100) → -990 ≤ vM M y ∧ vM M y ≤ 990) : CtV l yX0_aim wsX0_aim 2 46 D ad cA [.ref (ad 100), .int (zI x)] M (fun M1 => eqx M M1 [100] ∧ M1 100 2 = M 100 2 ∧ isB (vM M) x (M1 100 3) (M1 100 4) ∧ M1 100 5 = wLo x (M1 100 3) (M1 100 4) ∧ M1 100 6 = wHi x (M1 100 3) (M1 100 4)) := by
  refine CtV.of (cc := cX0_aim) (maxL := 5) (ret := none) had (by decide) rfl (Nat.le_of_ble_eq_true rfl) ?_
  intro p e s m args below meth c X hm
  show VV p l e { frames := 2, cells := 0, slots := 0, locals := 46 } s m args below meth c 5 D ad cA (Afr ad s.heap.size) 0 0 (QV below args s D ad cA (fun M1 => eqx M M1 [100] ∧ M1 100 2 = M 100 2 ∧ isB (vM M) x (M1 100 3) (M1 100 4) ∧ M1 100 5 = wLo x (M1 100 3) (M1 100 4) ∧ M1 100 6 = wHi x (M1 100 3) (M1 100 4))) M 0 [(0, .ref (ad 100)), (1, .int (zI x))] []
  have hn1 := hH.1
  refine vv_iconst (n := 0) X dX0_aim_0 ?_
  refine vv_istore_n (lv' := [(2, .int (zI 0)), (0, .ref (ad 100)), (1, .int (zI x))]) X rfl (by decide) rfl dX0_aim_1 ?_
  have loop_2 : ∀ (n : Nat)  (i : Nat) (a2 : Int), a2 = (i : Int) → (i : Int) < M 100 2 → M 102 i ≤ x → (M 100 2 - a2).toNat < n → VV p l e { frames := 2, cells := 0, slots := 0, locals := 46 } s m args below meth c 5 D ad cA (Afr ad s.heap.size) 0 0 (QV below args s D ad cA (fun M1 => eqx M M1 [100] ∧ M1 100 2 = M 100 2 ∧ isB (vM M) x (M1 100 3) (M1 100 4) ∧ M1 100 5 = wLo x (M1 100 3) (M1 100 4) ∧ M1 100 6 = wHi x (M1 100 3) (M1 100 4))) M 2 [(0, .ref (ad 100)), (1, .int (zI x)), (2, .int (zI a2))] [] := by
    intro n
    induction n with
    | zero => intro i a2 h2 hi hc hn; exact absurd hn (Nat.not_lt_zero _)
    | succ n ih_2 =>
      intro i a2 h2 hi hc hn
      have h6 : a2.toNat = i := by omega
      have h7 : (a2 + 1).toNat = i + 1 := by omega
      have hr0 := Hull_rng hH (j := i) (by omega)
      have hr1 := fun q => Hull_rng hH (j := i + 1) q
      refine vv_iload_n X 2 rfl rfl dX0_aim_2 ?_
      refine vv_aload_n X 0 rfl rfl dX0_aim_3 ?_
      refine vv_geti (Nf := 7) (ref := (TX0 2).1) (z := (M 100 2)) X (by decide) sh_100 rfl 2 (by decide) u_X0_aim_0 k_X0_aim_18 rfl rfl (rfl) dX0_aim_4 ?_
      refine vv_iconst (n := 1) X dX0_aim_7 ?_
      refine vv_isub X dX0_aim_8 ?_
      refine vv_icmp_ge (tgt := 30) X (by omega) (by omega) dX0_aim_9 (by decide) (fun c_9 => ?_) (fun c_9 => ?_)
      · skip
        refine vv_aload_n X 0 rfl rfl dX0_aim_30 ?_
        refine vv_aload_n X 0 rfl rfl dX0_aim_31 ?_
        refine vv_getr (Nf := 7) (ref := (TX0 1).1) X (by decide) sh_100 rfl 1 (by decide) u_X0_aim_0 k_X0_aim_15 rfl rfl dX0_aim_32 ?_
        refine vv_iload_n X 2 rfl rfl dX0_aim_35 ?_
        refine vv_iald (z := (M 102 i)) X (by decide) sh_102 (by decide) (by omega) (by first | (rw [h6]; done) | (rw [h6]; exact (rfl))) dX0_aim_36 ?_
        refine vv_puti (Nf := 7) (ref := (TX0 3).1) X (by decide) sh_100 rfl 3 (by decide) u_X0_aim_0 k_X0_aim_22 rfl tyX0_ok nmX0 rfl (by decide +kernel) rfl rfl dX0_aim_37 ?_
        refine vv_aload_n X 0 rfl rfl dX0_aim_40 ?_
        refine vv_geti (Nf := 7) (ref := (TX0 3).1) (z := (M 102 i)) X (by decide) sh_100 rfl 3 (by decide) u_X0_aim_0 k_X0_aim_22 rfl rfl (rfl) dX0_aim_41 ?_
        refine vv_iload_n X 1 rfl rfl dX0_aim_44 ?_
        refine vv_icmp_eq (tgt := 58) X (by omega) (by omega) dX0_aim_45 (by decide) (fun c_45 => ?_) (fun c_45 => ?_)
        · skip
          refine vv_aload_n X 0 rfl rfl dX0_aim_58 ?_
          refine vv_iload_n X 1 rfl rfl dX0_aim_59 ?_
          refine vv_puti (Nf := 7) (ref := (TX0 4).1) X (by decide) sh_100 rfl 4 (by decide) u_X0_aim_0 k_X0_aim_25 rfl tyX0_ok nmX0 rfl (by decide +kernel) rfl rfl dX0_aim_60 ?_
          refine vv_aload_n X 0 rfl rfl dX0_aim_63 ?_
          refine vv_iconst (n := 1) X dX0_aim_64 ?_
          refine vv_puti (Nf := 7) (ref := (TX0 5).1) X (by decide) sh_100 rfl 5 (by decide) u_X0_aim_0 k_X0_aim_28 rfl tyX0_ok nmX0 rfl (by decide +kernel) rfl rfl dX0_aim_65 ?_
          refine vv_aload_n X 0 rfl rfl dX0_aim_68 ?_
          refine vv_iconst (n := 0) X dX0_aim_69 ?_
          refine vv_puti (Nf := 7) (ref := (TX0 6).1) X (by decide) sh_100 rfl 6 (by decide) u_X0_aim_0 k_X0_aim_31 rfl tyX0_ok nmX0 rfl (by decide +kernel) rfl rfl dX0_aim_70 ?_
          exact vv_vret X hm (⟨eqx_up _ _ (eqx_up _ _ (eqx_up _ _ (eqx_up _ _ (eqx_rf _ _) (by decide)) (by decide)) (by decide)) (by decide), rfl, by
            have e : M 102 i = x := by omega
            show isB (vM M) x (M 102 i) x
            rw [e]
            exact Hull_best1 hH (i := i) (by omega) e, by show (1 : Int) = wLo x (M 102 i) x; unfold wLo; rw [if_pos (by omega)], by show (0 : Int) = wHi x (M 102 i) x; unfold wHi; rw [if_pos (by omega)]⟩) dX0_aim_73
        · skip
          have h100 := hH.2.2.1
          rw [show (M 100 2).toNat - 1 = i by omega] at h100
          omega
      · skip
        refine vv_aload_n X 0 rfl rfl dX0_aim_12 ?_
        refine vv_getr (Nf := 7) (ref := (TX0 1).1) X (by decide) sh_100 rfl 1 (by decide) u_X0_aim_0 k_X0_aim_15 rfl rfl dX0_aim_13 ?_
        refine vv_iload_n X 2 rfl rfl dX0_aim_16 ?_
        refine vv_iconst (n := 1) X dX0_aim_17 ?_
        refine vv_iadd X dX0_aim_18 ?_
        refine vv_iald (z := (M 102 (i + 1))) X (by decide) sh_102 (by decide) (by omega) (by first | (rw [h7]; done) | (rw [h7]; exact (rfl))) dX0_aim_19 ?_
        refine vv_iload_n X 1 rfl rfl dX0_aim_20 ?_
        refine vv_icmp_gt (tgt := 30) X (by omega) (by omega) dX0_aim_21 (by decide) (fun c_21 => ?_) (fun c_21 => ?_)
        · skip
          refine vv_aload_n X 0 rfl rfl dX0_aim_30 ?_
          refine vv_aload_n X 0 rfl rfl dX0_aim_31 ?_
          refine vv_getr (Nf := 7) (ref := (TX0 1).1) X (by decide) sh_100 rfl 1 (by decide) u_X0_aim_0 k_X0_aim_15 rfl rfl dX0_aim_32 ?_
          refine vv_iload_n X 2 rfl rfl dX0_aim_35 ?_
          refine vv_iald (z := (M 102 i)) X (by decide) sh_102 (by decide) (by omega) (by first | (rw [h6]; done) | (rw [h6]; exact (rfl))) dX0_aim_36 ?_
          refine vv_puti (Nf := 7) (ref := (TX0 3).1) X (by decide) sh_100 rfl 3 (by decide) u_X0_aim_0 k_X0_aim_22 rfl tyX0_ok nmX0 rfl (by decide +kernel) rfl rfl dX0_aim_37 ?_
          refine vv_aload_n X 0 rfl rfl dX0_aim_40 ?_
          refine vv_geti (Nf := 7) (ref := (TX0 3).1) (z := (M 102 i)) X (by decide) sh_100 rfl 3 (by decide) u_X0_aim_0 k_X0_aim_22 rfl rfl (rfl) dX0_aim_41 ?_
          refine vv_iload_n X 1 rfl rfl dX0_aim_44 ?_
          refine vv_icmp_eq (tgt := 58) X (by omega) (by omega) dX0_aim_45 (by decide) (fun c_45 => ?_) (fun c_45 => ?_)
          · skip
            refine vv_aload_n X 0 rfl rfl dX0_aim_58 ?_
            refine vv_iload_n X 1 rfl rfl dX0_aim_59 ?_
            refine vv_puti (Nf := 7) (ref := (TX0 4).1) X (by decide) sh_100 rfl 4 (by decide) u_X0_aim_0 k_X0_aim_25 rfl tyX0_ok nmX0 rfl (by decide +kernel) rfl rfl dX0_aim_60 ?_
            refine vv_aload_n X 0 rfl rfl dX0_aim_63 ?_
            refine vv_iconst (n := 1) X dX0_aim_64 ?_
            refine vv_puti (Nf := 7) (ref := (TX0 5).1) X (by decide) sh_100 rfl 5 (by decide) u_X0_aim_0 k_X0_aim_28 rfl tyX0_ok nmX0 rfl (by decide +kernel) rfl rfl dX0_aim_65 ?_
            refine vv_aload_n X 0 rfl rfl dX0_aim_68 ?_
            refine vv_iconst (n := 0) X dX0_aim_69 ?_
            refine vv_puti (Nf := 7) (ref := (TX0 6).1) X (by decide) sh_100 rfl 6 (by decide) u_X0_aim_0 k_X0_aim_31 rfl tyX0_ok nmX0 rfl (by decide +kernel) rfl rfl dX0_aim_70 ?_
            exact vv_vret X hm (⟨eqx_up _ _ (eqx_up _ _ (eqx_up _ _ (eqx_up _ _ (eqx_rf _ _) (by decide)) (by decide)) (by decide)) (by decide), rfl, by
              have e : M 102 i = x := by omega
              show isB (vM M) x (M 102 i) x
              rw [e]
              exact Hull_best1 hH (i := i) (by omega) e, by show (1 : Int) = wLo x (M 102 i) x; unfold wLo; rw [if_pos (by omega)], by show (0 : Int) = wHi x (M 102 i) x; unfold wHi; rw [if_pos (by omega)]⟩) dX0_aim_73
          · skip
            refine vv_iload_n X 2 rfl rfl dX0_aim_48 ?_
            refine vv_aload_n X 0 rfl rfl dX0_aim_49 ?_
            refine vv_geti (Nf := 7) (ref := (TX0 2).1) (z := (M 100 2)) X (by decide) sh_100 rfl 2 (by decide) u_X0_aim_0 k_X0_aim_18 rfl rfl (rfl) dX0_aim_50 ?_
            refine vv_iconst (n := 1) X dX0_aim_53 ?_
            refine vv_isub X dX0_aim_54 ?_
            refine vv_icmp_lt (tgt := 74) X (by omega) (by omega) dX0_aim_55 (by decide) (fun c_55 => ?_) (fun c_55 => ?_)
            · skip
              refine vv_aload_n X 0 rfl rfl dX0_aim_74 ?_
              refine vv_getr (Nf := 7) (ref := (TX0 1).1) X (by decide) sh_100 rfl 1 (by decide) u_X0_aim_0 k_X0_aim_15 rfl rfl dX0_aim_75 ?_
              refine vv_iload_n X 2 rfl rfl dX0_aim_78 ?_
              refine vv_iconst (n := 1) X dX0_aim_79 ?_
              refine vv_iadd X dX0_aim_80 ?_
              refine vv_iald (z := (M 102 (i + 1))) X (by decide) sh_102 (by decide) (by omega) (by first | (rw [h7]; done) | (rw [h7]; exact (rfl))) dX0_aim_81 ?_
              refine vv_istore_n (lv' := [(3, .int (zI (M 102 (i + 1)))), (0, .ref (ad 100)), (1, .int (zI x)), (2, .int (zI a2))]) X rfl (by decide) rfl dX0_aim_82 ?_
              refine vv_aload_n X 1 rfl rfl dX0_aim_83 ?_
              refine vv_iload_n X 2 rfl rfl dX0_aim_84 ?_
              refine vv_iconst (n := 1) X dX0_aim_85 ?_
              refine vv_iadd X dX0_aim_86 ?_
              refine vv_puti (Nf := 7) (ref := (TX0 4).1) X (by decide) sh_100 rfl 4 (by decide) u_X0_aim_0 k_X0_aim_25 rfl tyX0_ok nmX0 rfl (by decide +kernel) rfl rfl dX0_aim_87 ?_
              have loop_90 : ∀ (n : Nat) (M_90 : Mem) (u : Int), M_90 = up2 (up2 M 100 3 (M 102 i)) 100 4 u → x < u ∧ u ≤ M 102 (i + 1) → (∀ y : Int, x < y → y < u → hgt (vM M) (M 102 i) y (M 102 (i + 1)) ≠ 0) → (M 102 (i + 1) - u).toNat < n → VV p l e { frames := 2, cells := 0, slots := 0, locals := 46 } s m args below meth c 5 D ad cA (Afr ad s.heap.size) 0 0 (QV below args s D ad cA (fun M1 => eqx M M1 [100] ∧ M1 100 2 = M 100 2 ∧ isB (vM M) x (M1 100 3) (M1 100 4) ∧ M1 100 5 = wLo x (M1 100 3) (M1 100 4) ∧ M1 100 6 = wHi x (M1 100 3) (M1 100 4))) M_90 90 [(0, .ref (ad 100)), (1, .int (zI x)), (2, .int (zI a2)), (3, .int (zI (M 102 (i + 1))))] [] := by
                intro n
                induction n with
                | zero => intro M_90 u gM gu gy hn; exact absurd hn (Nat.not_lt_zero _)
                | succ n ih_90 =>
                  intro M_90 u gM gu gy hn
                  have g3 : M_90 100 3 = M 102 i := by rw [gM]; rfl
                  have g4 : M_90 100 4 = u := by rw [gM]; rfl
                  have gv : vM M_90 = vM M := by rw [gM]; rfl
                  have hri := hr1 (by omega)
                  refine vv_aload_n X 0 rfl rfl dX0_aim_90 ?_
                  refine vv_geti (Nf := 7) (ref := (TX0 4).1) (z := u) X (by decide) sh_100 rfl 4 (by decide) u_X0_aim_0 k_X0_aim_25 rfl rfl (g4) dX0_aim_91 ?_
                  refine vv_iload_n X 3 rfl rfl dX0_aim_94 ?_
                  refine vv_icmp_ge (tgt := 127) X (by omega) (by omega) dX0_aim_95 (by decide) (fun c_95 => ?_) (fun c_95 => ?_)
                  · skip
                    have hz0 : hgt (vM M) (M 102 i) u (M 102 (i + 1)) = 0 := by
                      first
                      | (rw [← e_z108]; exact c_111)
                      | (rw [show u = M 102 (i + 1) by omega]; exact hgt_r _ _ _)
                    refine vv_iconst (n := 1) X dX0_aim_127 ?_
                    refine vv_aload_n X 0 rfl rfl dX0_aim_128 ?_
                    refine vv_geti (Nf := 7) (ref := (TX0 4).1) (z := u) X (by decide) sh_100 rfl 4 (by decide) u_X0_aim_0 k_X0_aim_25 rfl rfl (g4) dX0_aim_129 ?_
                    refine vv_iload_n X 1 rfl rfl dX0_aim_132 ?_
                    refine vv_isub X dX0_aim_133 ?_
                    refine vv_iload_n X 1 rfl rfl dX0_aim_134 ?_
                    refine vv_aload_n X 0 rfl rfl dX0_aim_135 ?_
                    refine vv_geti (Nf := 7) (ref := (TX0 3).1) (z := (M 102 i)) X (by decide) sh_100 rfl 3 (by decide) u_X0_aim_0 k_X0_aim_22 rfl rfl (g3) dX0_aim_136 ?_
                    refine vv_isub X dX0_aim_139 ?_
                    refine vv_callNI (As := [.int (zI (u - x)), .int (zI (x - (M 102 i)))]) (st := [.int (zI 1)]) (host := RX8) X 2 (c_X8_commonDivisor l D cA had M_90 (u - x) (x - (M 102 i)) (by omega) (by omega)) gX0_aim_X8_commonDivisor_n44 rfl X.2.2.1.1 (by decide +kernel) (by decide +kernel) (by decide +kernel) ⟨by decide, by decide⟩ (Nat.le_of_ble_eq_true rfl) ⟨by decide, by decide⟩ rfl rfl dX0_aim_140 (fun zg Mc140 q_140 => ?_)
                    obtain ⟨e_zg, g_zg⟩ := q_140
                    have g_zg := g_zg.symm
                    subst g_zg
                    have hg1 := Int.gcd_pos_of_ne_zero_left (x - M 102 i) (show u - x ≠ 0 by omega)
                    have hg2 : (Int.gcd (u - x) (x - M 102 i) : Int) ≤ u - x := Int.le_of_dvd (by omega) (Int.gcd_dvd_left _ _)
                    refine vv_mmax X (by omega) (by omega) (by decide +kernel) (by decide +kernel) (by decide +kernel) (by decide +kernel) (by decide) (Nat.le_of_ble_eq_true rfl) ⟨by decide, by decide⟩ dX0_aim_143 ?_
                    rw [show (if 1 < zg then zg else 1) = (Int.gcd (u - x) (x - M 102 i) : Int) from by rw [← e_zg]; split <;> omega]
                    refine vv_istore (lv' := [(4, .int (zI (Int.gcd (u - x) (x - M 102 i) : Int))), (0, .ref (ad 100)), (1, .int (zI x)), (2, .int (zI a2)), (3, .int (zI (M 102 (i + 1))))]) X (by decide) rfl dX0_aim_146 ?_
                    refine vv_aload_n X 1 rfl rfl dX0_aim_148 ?_
                    refine vv_aload_n X 1 rfl rfl dX0_aim_149 ?_
                    refine vv_geti (Nf := 7) (ref := (TX0 4).1) (z := u) X (by decide) sh_100 rfl 4 (by decide) u_X0_aim_0 k_X0_aim_25 rfl rfl (g4) dX0_aim_150 ?_
                    refine vv_iload_n X 2 rfl rfl dX0_aim_153 ?_
                    refine vv_isub X dX0_aim_154 ?_
                    refine vv_iload X 0 rfl dX0_aim_155 ?_
                    refine vv_idiv X (by omega) (by omega) (by omega) dX0_aim_157 ?_
                    refine vv_puti (Nf := 7) (ref := (TX0 5).1) X (by decide) sh_100 rfl 5 (by decide) u_X0_aim_0 k_X0_aim_28 rfl tyX0_ok nmX0 rfl (by decide +kernel) rfl rfl dX0_aim_158 ?_
                    refine vv_aload_n X 1 rfl rfl dX0_aim_161 ?_
                    refine vv_iload_n X 2 rfl rfl dX0_aim_162 ?_
                    refine vv_aload_n X 1 rfl rfl dX0_aim_163 ?_
                    refine vv_geti (Nf := 7) (ref := (TX0 3).1) (z := (M 102 i)) X (by decide) sh_100 rfl 3 (by decide) u_X0_aim_0 k_X0_aim_22 rfl rfl (g3) dX0_aim_164 ?_
                    refine vv_isub X dX0_aim_167 ?_
                    refine vv_iload X 0 rfl dX0_aim_168 ?_
                    refine vv_idiv X (by omega) (by omega) (by omega) dX0_aim_170 ?_
                    refine vv_puti (Nf := 7) (ref := (TX0 6).1) X (by decide) sh_100 rfl 6 (by decide) u_X0_aim_0 k_X0_aim_31 rfl tyX0_ok nmX0 rfl (by decide +kernel) rfl rfl dX0_aim_171 ?_
                    exact vv_vret X hm (by
                      rw [gM]
                      refine ⟨eqx_up _ _ (eqx_up _ _ (eqx_up _ _ (eqx_up _ _ (eqx_rf _ _) (by decide)) (by decide)) (by decide)) (by decide), rfl, ?_, ?_, ?_⟩
                      · exact Hull_best2 hH (i := i) (by omega) (by omega) gu.1 gu.2 hz0 gy
                      · show (u - x).tdiv _ = wLo x (M 102 i) u
                        unfold wLo
                        rw [if_neg (by omega)]
                        try rfl
                      · show (x - M 102 i).tdiv _ = wHi x (M 102 i) u
                        unfold wHi
                        rw [if_neg (by omega)]
                        try rfl) dX0_aim_174
                  · skip
                    refine vv_aload_n X 0 rfl rfl dX0_aim_98 ?_
                    refine vv_aload_n X 0 rfl rfl dX0_aim_99 ?_
                    refine vv_geti (Nf := 7) (ref := (TX0 3).1) (z := (M 102 i)) X (by decide) sh_100 rfl 3 (by decide) u_X0_aim_0 k_X0_aim_22 rfl rfl (g3) dX0_aim_100 ?_
                    refine vv_aload_n X 0 rfl rfl dX0_aim_103 ?_
                    refine vv_geti (Nf := 7) (ref := (TX0 4).1) (z := u) X (by decide) sh_100 rfl 4 (by decide) u_X0_aim_0 k_X0_aim_25 rfl rfl (g4) dX0_aim_104 ?_
                    refine vv_iload_n X 3 rfl rfl dX0_aim_107 ?_
                    refine vv_callVI (As := [.int (zI (M 102 i)), .int (zI u), .int (zI (M 102 (i + 1)))]) (st := []) (Nf := 7) X 3 (c_X0_heightOver l D cA had M_90 (M 102 i) u (M 102 (i + 1)) (by omega) (by omega) (by omega)) gX0_aim_X0_heightOver rfl (by decide +kernel) ⟨by decide, by decide⟩ (Nat.le_of_ble_eq_true rfl) ⟨by decide, by decide⟩ rfl (by decide) sh_100 rfl rfl dX0_aim_108 (fun z108 Mc108 q_108 => ?_)
                    obtain ⟨e_z108, g_z108⟩ := q_108
                    have g_z108 := g_z108.symm
                    subst g_z108
                    rw [gv] at e_z108
                    have hgb := hgt_b (v := vM M) (l := M 102 i) (m := u) (r := M 102 (i + 1)) (by omega) (by omega) (by omega) (hv _ (by omega)) (hv _ (by omega)) (hv _ (by omega))
                    rw [← e_z108] at hgb
                    refine vv_if_eq (tgt := 127) X (by omega) dX0_aim_111 (by decide) (fun c_111 => ?_) (fun c_111 => ?_)
                    · skip
                      have hz0 : hgt (vM M) (M 102 i) u (M 102 (i + 1)) = 0 := by
                        first
                        | (rw [← e_z108]; exact c_111)
                        | (rw [show u = M 102 (i + 1) by omega]; exact hgt_r _ _ _)
                      refine vv_iconst (n := 1) X dX0_aim_127 ?_
                      refine vv_aload_n X 0 rfl rfl dX0_aim_128 ?_
                      refine vv_geti (Nf := 7) (ref := (TX0 4).1) (z := u) X (by decide) sh_100 rfl 4 (by decide) u_X0_aim_0 k_X0_aim_25 rfl rfl (g4) dX0_aim_129 ?_
                      refine vv_iload_n X 1 rfl rfl dX0_aim_132 ?_
                      refine vv_isub X dX0_aim_133 ?_
                      refine vv_iload_n X 1 rfl rfl dX0_aim_134 ?_
                      refine vv_aload_n X 0 rfl rfl dX0_aim_135 ?_
                      refine vv_geti (Nf := 7) (ref := (TX0 3).1) (z := (M 102 i)) X (by decide) sh_100 rfl 3 (by decide) u_X0_aim_0 k_X0_aim_22 rfl rfl (g3) dX0_aim_136 ?_
                      refine vv_isub X dX0_aim_139 ?_
                      refine vv_callNI (As := [.int (zI (u - x)), .int (zI (x - (M 102 i)))]) (st := [.int (zI 1)]) (host := RX8) X 2 (c_X8_commonDivisor l D cA had M_90 (u - x) (x - (M 102 i)) (by omega) (by omega)) gX0_aim_X8_commonDivisor_n44 rfl X.2.2.1.1 (by decide +kernel) (by decide +kernel) (by decide +kernel) ⟨by decide, by decide⟩ (Nat.le_of_ble_eq_true rfl) ⟨by decide, by decide⟩ rfl rfl dX0_aim_140 (fun zg Mc140 q_140 => ?_)
                      obtain ⟨e_zg, g_zg⟩ := q_140
                      have g_zg := g_zg.symm
                      subst g_zg
                      have hg1 := Int.gcd_pos_of_ne_zero_left (x - M 102 i) (show u - x ≠ 0 by omega)
                      have hg2 : (Int.gcd (u - x) (x - M 102 i) : Int) ≤ u - x := Int.le_of_dvd (by omega) (Int.gcd_dvd_left _ _)
                      refine vv_mmax X (by omega) (by omega) (by decide +kernel) (by decide +kernel) (by decide +kernel) (by decide +kernel) (by decide) (Nat.le_of_ble_eq_true rfl) ⟨by decide, by decide⟩ dX0_aim_143 ?_
                      rw [show (if 1 < zg then zg else 1) = (Int.gcd (u - x) (x - M 102 i) : Int) from by rw [← e_zg]; split <;> omega]
                      refine vv_istore (lv' := [(4, .int (zI (Int.gcd (u - x) (x - M 102 i) : Int))), (0, .ref (ad 100)), (1, .int (zI x)), (2, .int (zI a2)), (3, .int (zI (M 102 (i + 1))))]) X (by decide) rfl dX0_aim_146 ?_
                      refine vv_aload_n X 1 rfl rfl dX0_aim_148 ?_
                      refine vv_aload_n X 1 rfl rfl dX0_aim_149 ?_
                      refine vv_geti (Nf := 7) (ref := (TX0 4).1) (z := u) X (by decide) sh_100 rfl 4 (by decide) u_X0_aim_0 k_X0_aim_25 rfl rfl (g4) dX0_aim_150 ?_
                      refine vv_iload_n X 2 rfl rfl dX0_aim_153 ?_
                      refine vv_isub X dX0_aim_154 ?_
                      refine vv_iload X 0 rfl dX0_aim_155 ?_
                      refine vv_idiv X (by omega) (by omega) (by omega) dX0_aim_157 ?_
                      refine vv_puti (Nf := 7) (ref := (TX0 5).1) X (by decide) sh_100 rfl 5 (by decide) u_X0_aim_0 k_X0_aim_28 rfl tyX0_ok nmX0 rfl (by decide +kernel) rfl rfl dX0_aim_158 ?_
                      refine vv_aload_n X 1 rfl rfl dX0_aim_161 ?_
                      refine vv_iload_n X 2 rfl rfl dX0_aim_162 ?_
                      refine vv_aload_n X 1 rfl rfl dX0_aim_163 ?_
                      refine vv_geti (Nf := 7) (ref := (TX0 3).1) (z := (M 102 i)) X (by decide) sh_100 rfl 3 (by decide) u_X0_aim_0 k_X0_aim_22 rfl rfl (g3) dX0_aim_164 ?_
                      refine vv_isub X dX0_aim_167 ?_
                      refine vv_iload X 0 rfl dX0_aim_168 ?_
                      refine vv_idiv X (by omega) (by omega) (by omega) dX0_aim_170 ?_
                      refine vv_puti (Nf := 7) (ref := (TX0 6).1) X (by decide) sh_100 rfl 6 (by decide) u_X0_aim_0 k_X0_aim_31 rfl tyX0_ok nmX0 rfl (by decide +kernel) rfl rfl dX0_aim_171 ?_
                      exact vv_vret X hm (by
                        rw [gM]
                        refine ⟨eqx_up _ _ (eqx_up _ _ (eqx_up _ _ (eqx_up _ _ (eqx_rf _ _) (by decide)) (by decide)) (by decide)) (by decide), rfl, ?_, ?_, ?_⟩
                        · exact Hull_best2 hH (i := i) (by omega) (by omega) gu.1 gu.2 hz0 gy
                        · show (u - x).tdiv _ = wLo x (M 102 i) u
                          unfold wLo
                          rw [if_neg (by omega)]
                          try rfl
                        · show (x - M 102 i).tdiv _ = wHi x (M 102 i) u
                          unfold wHi
                          rw [if_neg (by omega)]
                          try rfl) dX0_aim_174
                    · skip
                      refine vv_aload_n X 0 rfl rfl dX0_aim_114 ?_
                      refine vv_dup X rfl dX0_aim_115 ?_
                      refine vv_geti (Nf := 7) (ref := (TX0 4).1) (z := u) X (by decide) sh_100 rfl 4 (by decide) u_X0_aim_0 k_X0_aim_25 rfl rfl (g4) dX0_aim_116 ?_
                      refine vv_iconst (n := 1) X dX0_aim_119 ?_
                      refine vv_iadd X dX0_aim_120 ?_
                      refine vv_puti (Nf := 7) (ref := (TX0 4).1) X (by decide) sh_100 rfl 4 (by decide) u_X0_aim_0 k_X0_aim_25 rfl tyX0_ok nmX0 rfl (by decide +kernel) rfl rfl dX0_aim_121 ?_
                      refine vv_goto (tgt := 90) X (by decide) dX0_aim_124 ?_
                      refine vv_sub (lv' := [(0, .ref (ad 100)), (1, .int (zI x)), (2, .int (zI a2)), (3, .int (zI (M 102 (i + 1))))]) [0, 1, 2, 3] rfl ?_
                      exact ih_90 (up2 M_90 100 4 (u + 1)) (u + 1) (by rw [gM, up2_up2]) (by omega) (fun y q1 q2 => by
                        rcases (show y < u ∨ y = u by omega) with q | q
                        · exact gy y q1 q
                        · rw [q, ← e_z108]; exact c_111) (by omega)
              refine vv_sub (lv' := [(0, .ref (ad 100)), (1, .int (zI x)), (2, .int (zI a2)), (3, .int (zI (M 102 (i + 1))))]) [1, 2, 3, 0] rfl ?_
              exact loop_90 _ (up2 (up2 M 100 3 (M 102 i)) 100 4 (x + 1)) (x + 1) rfl (by omega) (fun y q1 q2 => absurd q2 (by omega)) (Nat.lt_succ_self _)
            · skip
              omega
        · skip
          refine vv_iinc (lv' := [(2, .int (zI (a2 + 1))), (0, .ref (ad 100)), (1, .int (zI x))]) X 2 rfl (by decide) rfl dX0_aim_24 ?_
          refine vv_goto (tgt := 2) X (by decide) dX0_aim_27 ?_
          refine vv_sub (lv' := [(0, .ref (ad 100)), (1, .int (zI x)), (2, .int (zI (a2 + 1)))]) [1, 2, 0] rfl ?_
          exact ih_2 (i + 1) (a2 + 1) (by omega) (by omega) (by omega) (by omega)
  refine vv_sub (lv' := [(0, .ref (ad 100)), (1, .int (zI x)), (2, .int (zI 0))]) [1, 2, 0] rfl ?_
  exact loop_2 _ 0 0 rfl (by omega) (by rw [hH.2.1]; exact hx.1) (Nat.lt_succ_self _)
theorem u_X0_valueSum_0 : ∀ w ∈ u_ws RX0 TX0 7, w ∈ wsX0_valueSum := by decide +kernel
theorem k_X0_valueSum_9 : Cond.fieldLink yX0_valueSum.cls 9 (TX0 0).1 (TX0 0).2.1 (TX0 0).2.2.1 ∈ wsX0_valueSum := by decide +kernel
theorem k_X0_valueSum_22 : Cond.fieldLink yX0_valueSum.cls 22 (TX0 3).1 (TX0 3).2.1 (TX0 3).2.2.1 ∈ wsX0_valueSum := by decide +kernel
theorem k_X0_valueSum_25 : Cond.fieldLink yX0_valueSum.cls 25 (TX0 4).1 (TX0 4).2.1 (TX0 4).2.2.1 ∈ wsX0_valueSum := by decide +kernel
theorem k_X0_valueSum_28 : Cond.fieldLink yX0_valueSum.cls 28 (TX0 5).1 (TX0 5).2.1 (TX0 5).2.2.1 ∈ wsX0_valueSum := by decide +kernel
theorem k_X0_valueSum_31 : Cond.fieldLink yX0_valueSum.cls 31 (TX0 6).1 (TX0 6).2.1 (TX0 6).2.2.1 ∈ wsX0_valueSum := by decide +kernel
set_option maxRecDepth 100000 in
set_option maxHeartbeats 4000000 in
theorem c_X0_valueSum (l : Launch) (D : va_G) {ad : Nat → Nat} (cA : Nat → ClassId) (had : adok ad) (M : Mem) (hl : 0 ≤ M 100 3 ∧ M 100 3 ≤ 100) (hu : 0 ≤ M 100 4 ∧ M 100 4 ≤ 100) : CtI l yX0_valueSum wsX0_valueSum 0 0 D ad cA [.ref (ad 100)] M (fun z M1 => z = (M 100 5 * M 101 (M 100 3).toNat + M 100 6 * M 101 (M 100 4).toNat) ∧ M1 = M) := by
  refine CtI.of (cc := cX0_valueSum) (maxL := 1) (ret := (some .int)) had (by decide) rfl (Nat.le_of_ble_eq_true rfl) ?_
  intro p e s m args below meth c X hm
  show VV p l e { frames := 0, cells := 0, slots := 0, locals := 0 } s m args below meth c 1 D ad cA (Afr ad s.heap.size) 0 0 (QI below args s D ad cA (fun z M1 => z = (M 100 5 * M 101 (M 100 3).toNat + M 100 6 * M 101 (M 100 4).toNat) ∧ M1 = M)) M 0 [(0, .ref (ad 100))] []
  refine vv_aload_n X 0 rfl rfl dX0_valueSum_0 ?_
  refine vv_geti (Nf := 7) (ref := (TX0 5).1) (z := (M 100 5)) X (by decide) sh_100 rfl 5 (by decide) u_X0_valueSum_0 k_X0_valueSum_28 rfl rfl (rfl) dX0_valueSum_1 ?_
  refine vv_aload_n X 0 rfl rfl dX0_valueSum_4 ?_
  refine vv_getr (Nf := 7) (ref := (TX0 0).1) X (by decide) sh_100 rfl 0 (by decide) u_X0_valueSum_0 k_X0_valueSum_9 rfl rfl dX0_valueSum_5 ?_
  refine vv_aload_n X 0 rfl rfl dX0_valueSum_8 ?_
  refine vv_geti (Nf := 7) (ref := (TX0 3).1) (z := (M 100 3)) X (by decide) sh_100 rfl 3 (by decide) u_X0_valueSum_0 k_X0_valueSum_22 rfl rfl (rfl) dX0_valueSum_9 ?_
  refine vv_iald (z := (M 101 (Int.toNat (M 100 3)))) X (by decide) sh_101 (by decide) (by omega) (rfl) dX0_valueSum_12 ?_
  refine vv_imul X dX0_valueSum_13 ?_
  refine vv_aload_n X 0 rfl rfl dX0_valueSum_14 ?_
  refine vv_geti (Nf := 7) (ref := (TX0 6).1) (z := (M 100 6)) X (by decide) sh_100 rfl 6 (by decide) u_X0_valueSum_0 k_X0_valueSum_31 rfl rfl (rfl) dX0_valueSum_15 ?_
  refine vv_aload_n X 0 rfl rfl dX0_valueSum_18 ?_
  refine vv_getr (Nf := 7) (ref := (TX0 0).1) X (by decide) sh_100 rfl 0 (by decide) u_X0_valueSum_0 k_X0_valueSum_9 rfl rfl dX0_valueSum_19 ?_
  refine vv_aload_n X 0 rfl rfl dX0_valueSum_22 ?_
  refine vv_geti (Nf := 7) (ref := (TX0 4).1) (z := (M 100 4)) X (by decide) sh_100 rfl 4 (by decide) u_X0_valueSum_0 k_X0_valueSum_25 rfl rfl (rfl) dX0_valueSum_23 ?_
  refine vv_iald (z := (M 101 (Int.toNat (M 100 4)))) X (by decide) sh_101 (by decide) (by omega) (rfl) dX0_valueSum_26 ?_
  refine vv_imul X dX0_valueSum_27 ?_
  refine vv_iadd X dX0_valueSum_28 ?_
  exact vv_iret X hm (⟨rfl, rfl⟩) dX0_valueSum_29
theorem u_X0_tellEnvelope_103_0 : ∀ w ∈ u_ws RX0 TX0 7, w ∈ wsX0_tellEnvelope := by decide +kernel
theorem k_X0_tellEnvelope_103_28 : Cond.fieldLink yX0_tellEnvelope.cls 28 (TX0 5).1 (TX0 5).2.1 (TX0 5).2.2.1 ∈ wsX0_tellEnvelope := by decide +kernel
theorem k_X0_tellEnvelope_103_31 : Cond.fieldLink yX0_tellEnvelope.cls 31 (TX0 6).1 (TX0 6).2.1 (TX0 6).2.2.1 ∈ wsX0_tellEnvelope := by decide +kernel
set_option maxRecDepth 100000 in
set_option maxHeartbeats 4000000 in
theorem c_X0_tellEnvelope_103 (l : Launch) (D : va_G) {ad : Nat → Nat} (cA : Nat → ClassId) (had : adok ad) (M : Mem) (hl : 0 ≤ M 100 3 ∧ M 100 3 ≤ 100) (hu : 0 ≤ M 100 4 ∧ M 100 4 ≤ 100) (hw1 : 0 ≤ M 100 5 ∧ M 100 5 ≤ 100) (hw2 : 0 ≤ M 100 6 ∧ M 100 6 ≤ 100) (hw3 : 0 < M 100 5 + M 100 6) (hv : ∀ y : Nat, y ≤ 100 → -990 ≤ M 101 y ∧ M 101 y ≤ 990) : CtV l yX0_tellEnvelope wsX0_tellEnvelope 3 69 D ad cA [.ref (ad 100), .ref (ad 103)] M (fun M1 => M1 = up2 (up2 M 103 0 (frA (M 100 5 * M 101 (M 100 3).toNat + M 100 6 * M 101 (M 100 4).toNat) (M 100 5 + M 100 6))) 103 1 (frB (M 100 5 * M 101 (M 100 3).toNat + M 100 6 * M 101 (M 100 4).toNat) (M 100 5 + M 100 6))) := by
  refine CtV.of (cc := cX0_tellEnvelope) (maxL := 2) (ret := none) had (by decide) rfl (Nat.le_of_ble_eq_true rfl) ?_
  intro p e s m args below meth c X hm
  show VV p l e { frames := 3, cells := 0, slots := 0, locals := 69 } s m args below meth c 2 D ad cA (Afr ad s.heap.size) 0 0 (QV below args s D ad cA (fun M1 => M1 = up2 (up2 M 103 0 (frA (M 100 5 * M 101 (M 100 3).toNat + M 100 6 * M 101 (M 100 4).toNat) (M 100 5 + M 100 6))) 103 1 (frB (M 100 5 * M 101 (M 100 3).toNat + M 100 6 * M 101 (M 100 4).toNat) (M 100 5 + M 100 6)))) M 0 [(0, .ref (ad 100)), (1, .ref (ad 103))] []
  have b1 := mulS (a := M 100 5) (A := 100) (b := M 101 (M 100 3).toNat) (B := 990) hw1 (hv _ (by omega))
  have b2 := mulS (a := M 100 6) (A := 100) (b := M 101 (M 100 4).toNat) (B := 990) hw2 (hv _ (by omega))
  refine vv_aload_n X 1 rfl rfl dX0_tellEnvelope_0 ?_
  refine vv_aload_n X 0 rfl rfl dX0_tellEnvelope_1 ?_
  refine vv_callVI (As := []) (st := [.ref (ad 103)]) (Nf := 7) X 0 (c_X0_valueSum l D cA had M (by omega) (by omega)) gX0_tellEnvelope_X0_valueSum rfl (by decide +kernel) ⟨by decide, by decide⟩ (Nat.le_of_ble_eq_true rfl) ⟨by decide, by decide⟩ rfl (by decide) sh_100 rfl rfl dX0_tellEnvelope_2 (fun z2 Mc2 q_2 => ?_)
  obtain ⟨e_z2, g_z2⟩ := q_2
  have g_z2 := g_z2.symm
  subst g_z2
  refine vv_aload_n X 0 rfl rfl dX0_tellEnvelope_5 ?_
  refine vv_geti (Nf := 7) (ref := (TX0 5).1) (z := (M 100 5)) X (by decide) sh_100 rfl 5 (by decide) u_X0_tellEnvelope_103_0 k_X0_tellEnvelope_103_28 rfl rfl (rfl) dX0_tellEnvelope_6 ?_
  refine vv_aload_n X 0 rfl rfl dX0_tellEnvelope_9 ?_
  refine vv_geti (Nf := 7) (ref := (TX0 6).1) (z := (M 100 6)) X (by decide) sh_100 rfl 6 (by decide) u_X0_tellEnvelope_103_0 k_X0_tellEnvelope_103_31 rfl rfl (rfl) dX0_tellEnvelope_10 ?_
  refine vv_iadd X dX0_tellEnvelope_13 ?_
  refine vv_callVV (As := [.int (zI z2), .int (zI ((M 100 5) + (M 100 6)))]) (st := []) (Nf := 2) X 2 (c_X1_become_103 l D cA had M z2 ((M 100 5) + (M 100 6)) (by omega) (by omega) (by omega)) gX0_tellEnvelope_X1_become rfl (by decide +kernel) ⟨by decide, by decide⟩ (Nat.le_of_ble_eq_true rfl) ⟨by decide, by decide⟩ rfl (by decide) sh_103 rfl rfl dX0_tellEnvelope_14 (fun Mc14 q_14 => ?_)
  have q_14 := q_14.symm
  subst q_14
  exact vv_vret X hm (by rw [e_z2]) dX0_tellEnvelope_17
theorem u_X0_tellEnvelope_104_0 : ∀ w ∈ u_ws RX0 TX0 7, w ∈ wsX0_tellEnvelope := by decide +kernel
theorem k_X0_tellEnvelope_104_28 : Cond.fieldLink yX0_tellEnvelope.cls 28 (TX0 5).1 (TX0 5).2.1 (TX0 5).2.2.1 ∈ wsX0_tellEnvelope := by decide +kernel
theorem k_X0_tellEnvelope_104_31 : Cond.fieldLink yX0_tellEnvelope.cls 31 (TX0 6).1 (TX0 6).2.1 (TX0 6).2.2.1 ∈ wsX0_tellEnvelope := by decide +kernel
set_option maxRecDepth 100000 in
set_option maxHeartbeats 4000000 in
theorem c_X0_tellEnvelope_104 (l : Launch) (D : va_G) {ad : Nat → Nat} (cA : Nat → ClassId) (had : adok ad) (M : Mem) (hl : 0 ≤ M 100 3 ∧ M 100 3 ≤ 100) (hu : 0 ≤ M 100 4 ∧ M 100 4 ≤ 100) (hw1 : 0 ≤ M 100 5 ∧ M 100 5 ≤ 100) (hw2 : 0 ≤ M 100 6 ∧ M 100 6 ≤ 100) (hw3 : 0 < M 100 5 + M 100 6) (hv : ∀ y : Nat, y ≤ 100 → -990 ≤ M 101 y ∧ M 101 y ≤ 990) : CtV l yX0_tellEnvelope wsX0_tellEnvelope 3 69 D ad cA [.ref (ad 100), .ref (ad 104)] M (fun M1 => M1 = up2 (up2 M 104 0 (frA (M 100 5 * M 101 (M 100 3).toNat + M 100 6 * M 101 (M 100 4).toNat) (M 100 5 + M 100 6))) 104 1 (frB (M 100 5 * M 101 (M 100 3).toNat + M 100 6 * M 101 (M 100 4).toNat) (M 100 5 + M 100 6))) := by
  refine CtV.of (cc := cX0_tellEnvelope) (maxL := 2) (ret := none) had (by decide) rfl (Nat.le_of_ble_eq_true rfl) ?_
  intro p e s m args below meth c X hm
  show VV p l e { frames := 3, cells := 0, slots := 0, locals := 69 } s m args below meth c 2 D ad cA (Afr ad s.heap.size) 0 0 (QV below args s D ad cA (fun M1 => M1 = up2 (up2 M 104 0 (frA (M 100 5 * M 101 (M 100 3).toNat + M 100 6 * M 101 (M 100 4).toNat) (M 100 5 + M 100 6))) 104 1 (frB (M 100 5 * M 101 (M 100 3).toNat + M 100 6 * M 101 (M 100 4).toNat) (M 100 5 + M 100 6)))) M 0 [(0, .ref (ad 100)), (1, .ref (ad 104))] []
  have b1 := mulS (a := M 100 5) (A := 100) (b := M 101 (M 100 3).toNat) (B := 990) hw1 (hv _ (by omega))
  have b2 := mulS (a := M 100 6) (A := 100) (b := M 101 (M 100 4).toNat) (B := 990) hw2 (hv _ (by omega))
  refine vv_aload_n X 1 rfl rfl dX0_tellEnvelope_0 ?_
  refine vv_aload_n X 0 rfl rfl dX0_tellEnvelope_1 ?_
  refine vv_callVI (As := []) (st := [.ref (ad 104)]) (Nf := 7) X 0 (c_X0_valueSum l D cA had M (by omega) (by omega)) gX0_tellEnvelope_X0_valueSum rfl (by decide +kernel) ⟨by decide, by decide⟩ (Nat.le_of_ble_eq_true rfl) ⟨by decide, by decide⟩ rfl (by decide) sh_100 rfl rfl dX0_tellEnvelope_2 (fun z2 Mc2 q_2 => ?_)
  obtain ⟨e_z2, g_z2⟩ := q_2
  have g_z2 := g_z2.symm
  subst g_z2
  refine vv_aload_n X 0 rfl rfl dX0_tellEnvelope_5 ?_
  refine vv_geti (Nf := 7) (ref := (TX0 5).1) (z := (M 100 5)) X (by decide) sh_100 rfl 5 (by decide) u_X0_tellEnvelope_104_0 k_X0_tellEnvelope_104_28 rfl rfl (rfl) dX0_tellEnvelope_6 ?_
  refine vv_aload_n X 0 rfl rfl dX0_tellEnvelope_9 ?_
  refine vv_geti (Nf := 7) (ref := (TX0 6).1) (z := (M 100 6)) X (by decide) sh_100 rfl 6 (by decide) u_X0_tellEnvelope_104_0 k_X0_tellEnvelope_104_31 rfl rfl (rfl) dX0_tellEnvelope_10 ?_
  refine vv_iadd X dX0_tellEnvelope_13 ?_
  refine vv_callVV (As := [.int (zI z2), .int (zI ((M 100 5) + (M 100 6)))]) (st := []) (Nf := 2) X 2 (c_X1_become_104 l D cA had M z2 ((M 100 5) + (M 100 6)) (by omega) (by omega) (by omega)) gX0_tellEnvelope_X1_become rfl (by decide +kernel) ⟨by decide, by decide⟩ (Nat.le_of_ble_eq_true rfl) ⟨by decide, by decide⟩ rfl (by decide) sh_104 rfl rfl dX0_tellEnvelope_14 (fun Mc14 q_14 => ?_)
  have q_14 := q_14.symm
  subst q_14
  exact vv_vret X hm (by rw [e_z2]) dX0_tellEnvelope_17
