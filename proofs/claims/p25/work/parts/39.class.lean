theorem u_X8_prior_8 : ∀ w ∈ u_ws RX8 TX8 9, w ∈ wsX8_prior := by decide +kernel
theorem k_X8_prior_10 : Cond.fieldLink yX8_prior.cls 10 (TX8 0).1 (TX8 0).2.1 (TX8 0).2.2.1 ∈ wsX8_prior := by decide +kernel
theorem k_X8_prior_19 : Cond.fieldLink yX8_prior.cls 19 (TX8 1).1 (TX8 1).2.1 (TX8 1).2.2.1 ∈ wsX8_prior := by decide +kernel
set_option maxRecDepth 100000 in
set_option maxHeartbeats 4000000 in
theorem c_X8_prior (l : Launch) (D : va_G) {ad : Nat → Nat} (cA : Nat → ClassId) (had : adok ad) (M : Mem) (x : Int) (hx : -2147483648 ≤ x ∧ x ≤ 2147483647) (hH : HI M) (hw : WF (vC M 0)) : CtI l yX8_prior wsX8_prior 4 103 D ad cA [.ref (ad 90), .int (zI x)] M (fun z M1 => cChg (opP x) (M 95 2) M z M1 ∧ M1 95 = M 95) := by
  refine CtI.of (cc := cX8_prior) (maxL := 2) (ret := (some .int)) had (by decide) rfl (Nat.le_of_ble_eq_true rfl) ?_
  intro p e s m args below meth c X hm
  show VV p l e { frames := 4, cells := 0, slots := 0, locals := 103 } s m args below meth c 2 D ad cA (Afr ad s.heap.size) 0 0 (QI below args s D ad cA (fun z M1 => cChg (opP x) (M 95 2) M z M1 ∧ M1 95 = M 95)) M 0 [(0, .ref (ad 90)), (1, .int (zI x))] []
  have hsm : 1 ≤ M 6 2 ∧ M 6 2 ≤ 6 := WFs_pos hw.2.2
  have hwb : ∀ k : Nat, (k : Int) < M 6 2 → (1 ≤ M 7 k ∧ M 7 k ≤ 999) ∧ (0 ≤ M 8 k ∧ M 8 k ≤ 100) := fun k hk => WFs_b hw.2.2 hk
  have hW : cWR M := hw.2.1
  have hn5 : 0 ≤ M 1 4 ∧ M 1 4 ≤ 5 := by
    have q1 := hW.2.1
    have q2 := hW.1
    omega
  have hp9 : 1 ≤ M 0 2 ∧ M 0 2 ≤ 99 := hw.1
  obtain ⟨d, hd⟩ : ∃ d : Nat, (d : Int) = M 91 1 + 3 := ⟨(M 91 1 + 3).toNat, by have := hH.1; omega⟩
  have hd10 : d < 10 := by have := hH.1; omega
  have hH1 := hH.1
  have hH2 := hH.2
  refine vv_aload_n X 0 rfl rfl dX8_prior_0 ?_
  refine vv_getr (Nf := 9) (ref := (TX8 1).1) X (by decide) sh_90 rfl 1 (by decide) u_X8_prior_8 k_X8_prior_19 rfl rfl dX8_prior_1 ?_
  refine vv_aload_n X 0 rfl rfl dX8_prior_4 ?_
  refine vv_getr (Nf := 9) (ref := (TX8 0).1) X (by decide) sh_90 rfl 0 (by decide) u_X8_prior_8 k_X8_prior_10 rfl rfl dX8_prior_5 ?_
  refine vv_callVV (As := [.ref (ad 0)]) (st := []) (Nf := 3) X 1 (c_X2_note l D cA had M d (hd10) (by omega) (by omega)) gX8_prior_X2_note rfl (by decide +kernel) ⟨by decide, by decide⟩ (Nat.le_of_ble_eq_true rfl) ⟨by decide, by decide⟩ rfl (by decide) sh_91 rfl rfl dX8_prior_8 (fun Ma qa => ?_)
  have ea : ∀ a, a < 9 → Ma a = M a := fun a ha => qa.1 a (by omega)
  have e91 : Ma 91 = M 91 := qa.1 91 (by omega)
  have e95 : Ma 95 = M 95 := qa.1 95 (by omega)
  have e0 : vC Ma 0 = vC M 0 := vC_eq (fun a _ h => ea a (by omega))
  have hwa : WF (vC Ma 0) := by rw [e0]; exact hw
  have ea0 := ea 0 (by decide)
  have ea1 := ea 1 (by decide)
  have ea6 := ea 6 (by decide)
  have hWa : cWR Ma := hwa.2.1
  have hna : 0 ≤ Ma 1 4 ∧ Ma 1 4 ≤ 5 := by rw [ea1]; exact hn5
  have hpa : 1 ≤ Ma 0 2 ∧ Ma 0 2 ≤ 99 := hwa.1
  refine vv_aload_n X 0 rfl rfl dX8_prior_11 ?_
  refine vv_aload_n X 0 rfl rfl dX8_prior_12 ?_
  refine vv_getr (Nf := 9) (ref := (TX8 0).1) X (by decide) sh_90 rfl 0 (by decide) u_X8_prior_8 k_X8_prior_10 rfl rfl dX8_prior_13 ?_
  refine vv_iload_n X 1 rfl rfl dX8_prior_16 ?_
  refine vv_callVI (As := [.int (zI x)]) (st := [.ref (ad 90)]) (Nf := 3) X 1 (c_X7_movePrior l D cA had Ma x (by omega)) gX8_prior_X7_movePrior rfl (by decide +kernel) ⟨by decide, by decide⟩ (Nat.le_of_ble_eq_true rfl) ⟨by decide, by decide⟩ rfl (by decide) sh_0 rfl rfl dX8_prior_17 (fun z17 Mb qb => ?_)
  obtain ⟨hO, hE⟩ := opP_of qb
  have hz := opP_z hwa hO
  have eb91 : Mb 91 = M 91 := (hE 91 (by decide)).trans e91
  refine vv_callVI (As := [.int (zI z17)]) (st := []) (Nf := 9) X 1 (c_X8_recorded l D cA had Mb z17 (by omega) (by rw [eb91]; exact hH1) (by rw [eb91]; exact hH2)) gX8_prior_X8_recorded rfl (by decide +kernel) ⟨by decide, by decide⟩ (Nat.le_of_ble_eq_true rfl) ⟨by decide, by decide⟩ rfl (by decide) sh_90 rfl rfl dX8_prior_20 (fun z20 Mr qr => ?_)
  exact vv_iret X hm (⟨chg_of (op := opP x) hH hd hn5.2 hsm.2 qa hO (fun a ha => hE a (by simp; omega)) (by rw [hE 95 (by decide), e95]) qr, (rec95 qr).trans ((hE 95 (by decide)).trans e95)⟩) dX8_prior_23
theorem u_X8_hire_7 : ∀ w ∈ u_ws RX7 TX7 3, w ∈ wsX8_hire := by decide +kernel
theorem u_X8_hire_8 : ∀ w ∈ u_ws RX8 TX8 9, w ∈ wsX8_hire := by decide +kernel
theorem k_X8_hire_10 : Cond.fieldLink yX8_hire.cls 10 (TX8 0).1 (TX8 0).2.1 (TX8 0).2.2.1 ∈ wsX8_hire := by decide +kernel
theorem k_X8_hire_19 : Cond.fieldLink yX8_hire.cls 19 (TX8 1).1 (TX8 1).2.1 (TX8 1).2.2.1 ∈ wsX8_hire := by decide +kernel
theorem k_X8_hire_73 : Cond.fieldLink yX8_hire.cls 73 (TX7 0).1 (TX7 0).2.1 (TX7 0).2.2.1 ∈ wsX8_hire := by decide +kernel
set_option maxRecDepth 100000 in
set_option maxHeartbeats 4000000 in
theorem c_X8_hire (l : Launch) (D : va_G) {ad : Nat → Nat} (cA : Nat → ClassId) (had : adok ad) (M : Mem) (a b u v : Int) (ha : -2147483648 ≤ a ∧ a ≤ 2147483647) (hb : -2147483648 ≤ b ∧ b ≤ 2147483647) (hu : -2147483648 ≤ u ∧ u ≤ 2147483647) (hv : -2147483648 ≤ v ∧ v ≤ 2147483647) (hH : HI M) (hw : WF (vC M 0)) : CtI l yX8_hire wsX8_hire 4 103 D ad cA [.ref (ad 90), .int (zI a), .int (zI b), .int (zI u), .int (zI v)] M (fun z M1 => cChg (opR a b u v) (M 95 2) M z M1 ∧ M1 95 = M 95) := by
  refine CtI.of (cc := cX8_hire) (maxL := 5) (ret := (some .int)) had (by decide) rfl (Nat.le_of_ble_eq_true rfl) ?_
  intro p e s m args below meth c X hm
  show VV p l e { frames := 4, cells := 0, slots := 0, locals := 103 } s m args below meth c 5 D ad cA (Afr ad s.heap.size) 0 0 (QI below args s D ad cA (fun z M1 => cChg (opR a b u v) (M 95 2) M z M1 ∧ M1 95 = M 95)) M 0 [(0, .ref (ad 90)), (1, .int (zI a)), (2, .int (zI b)), (3, .int (zI u)), (4, .int (zI v))] []
  have hsm : 1 ≤ M 6 2 ∧ M 6 2 ≤ 6 := WFs_pos hw.2.2
  have hwb : ∀ k : Nat, (k : Int) < M 6 2 → (1 ≤ M 7 k ∧ M 7 k ≤ 999) ∧ (0 ≤ M 8 k ∧ M 8 k ≤ 100) := fun k hk => WFs_b hw.2.2 hk
  have hW : cWR M := hw.2.1
  have hn5 : 0 ≤ M 1 4 ∧ M 1 4 ≤ 5 := by
    have q1 := hW.2.1
    have q2 := hW.1
    omega
  have hp9 : 1 ≤ M 0 2 ∧ M 0 2 ≤ 99 := hw.1
  obtain ⟨d, hd⟩ : ∃ d : Nat, (d : Int) = M 91 1 + 3 := ⟨(M 91 1 + 3).toNat, by have := hH.1; omega⟩
  have hd10 : d < 10 := by have := hH.1; omega
  have hH1 := hH.1
  have hH2 := hH.2
  refine vv_aload_n X 0 rfl rfl dX8_hire_0 ?_
  refine vv_getr (Nf := 9) (ref := (TX8 1).1) X (by decide) sh_90 rfl 1 (by decide) u_X8_hire_8 k_X8_hire_19 rfl rfl dX8_hire_1 ?_
  refine vv_aload_n X 0 rfl rfl dX8_hire_4 ?_
  refine vv_getr (Nf := 9) (ref := (TX8 0).1) X (by decide) sh_90 rfl 0 (by decide) u_X8_hire_8 k_X8_hire_10 rfl rfl dX8_hire_5 ?_
  refine vv_callVV (As := [.ref (ad 0)]) (st := []) (Nf := 3) X 1 (c_X2_note l D cA had M d (hd10) (by omega) (by omega)) gX8_hire_X2_note rfl (by decide +kernel) ⟨by decide, by decide⟩ (Nat.le_of_ble_eq_true rfl) ⟨by decide, by decide⟩ rfl (by decide) sh_91 rfl rfl dX8_hire_8 (fun Ma qa => ?_)
  have ea : ∀ a, a < 9 → Ma a = M a := fun a ha => qa.1 a (by omega)
  have e91 : Ma 91 = M 91 := qa.1 91 (by omega)
  have e95 : Ma 95 = M 95 := qa.1 95 (by omega)
  have e0 : vC Ma 0 = vC M 0 := vC_eq (fun a _ h => ea a (by omega))
  have hwa : WF (vC Ma 0) := by rw [e0]; exact hw
  have ea0 := ea 0 (by decide)
  have ea1 := ea 1 (by decide)
  have ea6 := ea 6 (by decide)
  have hWa : cWR Ma := hwa.2.1
  have hna : 0 ≤ Ma 1 4 ∧ Ma 1 4 ≤ 5 := by rw [ea1]; exact hn5
  have hpa : 1 ≤ Ma 0 2 ∧ Ma 0 2 ≤ 99 := hwa.1
  refine vv_aload_n X 0 rfl rfl dX8_hire_11 ?_
  refine vv_aload_n X 0 rfl rfl dX8_hire_12 ?_
  refine vv_getr (Nf := 9) (ref := (TX8 0).1) X (by decide) sh_90 rfl 0 (by decide) u_X8_hire_8 k_X8_hire_10 rfl rfl dX8_hire_13 ?_
  refine vv_getr (Nf := 3) (ref := (TX7 0).1) X (by decide) sh_0 rfl 0 (by decide) u_X8_hire_7 k_X8_hire_73 rfl rfl dX8_hire_16 ?_
  refine vv_iload_n X 1 rfl rfl dX8_hire_19 ?_
  refine vv_iload_n X 2 rfl rfl dX8_hire_20 ?_
  refine vv_iload_n X 3 rfl rfl dX8_hire_21 ?_
  refine vv_iload X 4 rfl dX8_hire_22 ?_
  refine vv_callVI (As := [.int (zI a), .int (zI b), .int (zI u), .int (zI v)]) (st := [.ref (ad 90)]) (Nf := 5) X 4 (c_X5_admit l D cA had Ma a b u v (by omega) (by omega) (by omega) (by omega) (by omega)) gX8_hire_X5_admit rfl (by decide +kernel) ⟨by decide, by decide⟩ (Nat.le_of_ble_eq_true rfl) ⟨by decide, by decide⟩ rfl (by decide) sh_1 rfl rfl dX8_hire_24 (fun z24 Mb qb => ?_)
  obtain ⟨hO, hE⟩ := opR_of qb hna
  have hz := opR_z hwa hO
  have eb91 : Mb 91 = M 91 := (hE 91 (by decide)).trans e91
  refine vv_callVI (As := [.int (zI z24)]) (st := []) (Nf := 9) X 1 (c_X8_recorded l D cA had Mb z24 (by omega) (by rw [eb91]; exact hH1) (by rw [eb91]; exact hH2)) gX8_hire_X8_recorded rfl (by decide +kernel) ⟨by decide, by decide⟩ (Nat.le_of_ble_eq_true rfl) ⟨by decide, by decide⟩ rfl (by decide) sh_90 rfl rfl dX8_hire_27 (fun z27 Mr qr => ?_)
  exact vv_iret X hm (⟨chg_of (op := opR a b u v) hH hd hn5.2 hsm.2 qa hO (fun a ha => hE a (by simp; omega)) (by rw [hE 95 (by decide), e95]) qr, (rec95 qr).trans ((hE 95 (by decide)).trans e95)⟩) dX8_hire_30
theorem u_X8_dismiss_7 : ∀ w ∈ u_ws RX7 TX7 3, w ∈ wsX8_dismiss := by decide +kernel
theorem u_X8_dismiss_8 : ∀ w ∈ u_ws RX8 TX8 9, w ∈ wsX8_dismiss := by decide +kernel
theorem k_X8_dismiss_10 : Cond.fieldLink yX8_dismiss.cls 10 (TX8 0).1 (TX8 0).2.1 (TX8 0).2.2.1 ∈ wsX8_dismiss := by decide +kernel
theorem k_X8_dismiss_19 : Cond.fieldLink yX8_dismiss.cls 19 (TX8 1).1 (TX8 1).2.1 (TX8 1).2.2.1 ∈ wsX8_dismiss := by decide +kernel
theorem k_X8_dismiss_73 : Cond.fieldLink yX8_dismiss.cls 73 (TX7 0).1 (TX7 0).2.1 (TX7 0).2.2.1 ∈ wsX8_dismiss := by decide +kernel
set_option maxRecDepth 100000 in
set_option maxHeartbeats 4000000 in
theorem c_X8_dismiss (l : Launch) (D : va_G) {ad : Nat → Nat} (cA : Nat → ClassId) (had : adok ad) (M : Mem) (x : Int) (hx : -2147483648 ≤ x ∧ x ≤ 2147483647) (hH : HI M) (hw : WF (vC M 0)) : CtI l yX8_dismiss wsX8_dismiss 4 103 D ad cA [.ref (ad 90), .int (zI x)] M (fun z M1 => cChg (opD x) (M 95 2) M z M1 ∧ M1 95 = M 95) := by
  refine CtI.of (cc := cX8_dismiss) (maxL := 2) (ret := (some .int)) had (by decide) rfl (Nat.le_of_ble_eq_true rfl) ?_
  intro p e s m args below meth c X hm
  show VV p l e { frames := 4, cells := 0, slots := 0, locals := 103 } s m args below meth c 2 D ad cA (Afr ad s.heap.size) 0 0 (QI below args s D ad cA (fun z M1 => cChg (opD x) (M 95 2) M z M1 ∧ M1 95 = M 95)) M 0 [(0, .ref (ad 90)), (1, .int (zI x))] []
  have hsm : 1 ≤ M 6 2 ∧ M 6 2 ≤ 6 := WFs_pos hw.2.2
  have hwb : ∀ k : Nat, (k : Int) < M 6 2 → (1 ≤ M 7 k ∧ M 7 k ≤ 999) ∧ (0 ≤ M 8 k ∧ M 8 k ≤ 100) := fun k hk => WFs_b hw.2.2 hk
  have hW : cWR M := hw.2.1
  have hn5 : 0 ≤ M 1 4 ∧ M 1 4 ≤ 5 := by
    have q1 := hW.2.1
    have q2 := hW.1
    omega
  have hp9 : 1 ≤ M 0 2 ∧ M 0 2 ≤ 99 := hw.1
  obtain ⟨d, hd⟩ : ∃ d : Nat, (d : Int) = M 91 1 + 3 := ⟨(M 91 1 + 3).toNat, by have := hH.1; omega⟩
  have hd10 : d < 10 := by have := hH.1; omega
  have hH1 := hH.1
  have hH2 := hH.2
  refine vv_aload_n X 0 rfl rfl dX8_dismiss_0 ?_
  refine vv_getr (Nf := 9) (ref := (TX8 1).1) X (by decide) sh_90 rfl 1 (by decide) u_X8_dismiss_8 k_X8_dismiss_19 rfl rfl dX8_dismiss_1 ?_
  refine vv_aload_n X 0 rfl rfl dX8_dismiss_4 ?_
  refine vv_getr (Nf := 9) (ref := (TX8 0).1) X (by decide) sh_90 rfl 0 (by decide) u_X8_dismiss_8 k_X8_dismiss_10 rfl rfl dX8_dismiss_5 ?_
  refine vv_callVV (As := [.ref (ad 0)]) (st := []) (Nf := 3) X 1 (c_X2_note l D cA had M d (hd10) (by omega) (by omega)) gX8_dismiss_X2_note rfl (by decide +kernel) ⟨by decide, by decide⟩ (Nat.le_of_ble_eq_true rfl) ⟨by decide, by decide⟩ rfl (by decide) sh_91 rfl rfl dX8_dismiss_8 (fun Ma qa => ?_)
  have ea : ∀ a, a < 9 → Ma a = M a := fun a ha => qa.1 a (by omega)
  have e91 : Ma 91 = M 91 := qa.1 91 (by omega)
  have e95 : Ma 95 = M 95 := qa.1 95 (by omega)
  have e0 : vC Ma 0 = vC M 0 := vC_eq (fun a _ h => ea a (by omega))
  have hwa : WF (vC Ma 0) := by rw [e0]; exact hw
  have ea0 := ea 0 (by decide)
  have ea1 := ea 1 (by decide)
  have ea6 := ea 6 (by decide)
  have hWa : cWR Ma := hwa.2.1
  have hna : 0 ≤ Ma 1 4 ∧ Ma 1 4 ≤ 5 := by rw [ea1]; exact hn5
  have hpa : 1 ≤ Ma 0 2 ∧ Ma 0 2 ≤ 99 := hwa.1
  refine vv_aload_n X 0 rfl rfl dX8_dismiss_11 ?_
  refine vv_aload_n X 0 rfl rfl dX8_dismiss_12 ?_
  refine vv_getr (Nf := 9) (ref := (TX8 0).1) X (by decide) sh_90 rfl 0 (by decide) u_X8_dismiss_8 k_X8_dismiss_10 rfl rfl dX8_dismiss_13 ?_
  refine vv_getr (Nf := 3) (ref := (TX7 0).1) X (by decide) sh_0 rfl 0 (by decide) u_X8_dismiss_7 k_X8_dismiss_73 rfl rfl dX8_dismiss_16 ?_
  refine vv_iload_n X 1 rfl rfl dX8_dismiss_19 ?_
  refine vv_callVI (As := [.int (zI x)]) (st := [.ref (ad 90)]) (Nf := 5) X 1 (c_X5_remove l D cA had Ma x (by omega) (by omega)) gX8_dismiss_X5_remove rfl (by decide +kernel) ⟨by decide, by decide⟩ (Nat.le_of_ble_eq_true rfl) ⟨by decide, by decide⟩ rfl (by decide) sh_1 rfl rfl dX8_dismiss_20 (fun z20 Mb qb => ?_)
  obtain ⟨hO, hE⟩ := opD_of qb
  have hz := opD_z hwa hO
  have eb91 : Mb 91 = M 91 := (hE 91 (by decide)).trans e91
  refine vv_callVI (As := [.int (zI z20)]) (st := []) (Nf := 9) X 1 (c_X8_recorded l D cA had Mb z20 (by omega) (by rw [eb91]; exact hH1) (by rw [eb91]; exact hH2)) gX8_dismiss_X8_recorded rfl (by decide +kernel) ⟨by decide, by decide⟩ (Nat.le_of_ble_eq_true rfl) ⟨by decide, by decide⟩ rfl (by decide) sh_90 rfl rfl dX8_dismiss_23 (fun z23 Mr qr => ?_)
  exact vv_iret X hm (⟨chg_of (op := opD x) hH hd hn5.2 hsm.2 qa hO (fun a ha => hE a (by simp; omega)) (by rw [hE 95 (by decide), e95]) qr, (rec95 qr).trans ((hE 95 (by decide)).trans e95)⟩) dX8_dismiss_26
theorem u_X8_refine_8 : ∀ w ∈ u_ws RX8 TX8 9, w ∈ wsX8_refine := by decide +kernel
theorem k_X8_refine_10 : Cond.fieldLink yX8_refine.cls 10 (TX8 0).1 (TX8 0).2.1 (TX8 0).2.2.1 ∈ wsX8_refine := by decide +kernel
theorem k_X8_refine_19 : Cond.fieldLink yX8_refine.cls 19 (TX8 1).1 (TX8 1).2.1 (TX8 1).2.2.1 ∈ wsX8_refine := by decide +kernel
set_option maxRecDepth 100000 in
set_option maxHeartbeats 4000000 in
theorem c_X8_refine (l : Launch) (D : va_G) {ad : Nat → Nat} (cA : Nat → ClassId) (had : adok ad) (M : Mem) (x a b : Int) (hx : -2147483648 ≤ x ∧ x ≤ 2147483647) (ha : -2147483648 ≤ a ∧ a ≤ 2147483647) (hb : -2147483648 ≤ b ∧ b ≤ 2147483647) (hH : HI M) (hw : WF (vC M 0)) : CtI l yX8_refine wsX8_refine 5 115 D ad cA [.ref (ad 90), .int (zI x), .int (zI a), .int (zI b)] M (fun z M1 => cChg (opSp x a b) (M 95 2) M z M1 ∧ M1 95 = M 95) := by
  refine CtI.of (cc := cX8_refine) (maxL := 4) (ret := (some .int)) had (by decide) rfl (Nat.le_of_ble_eq_true rfl) ?_
  intro p e s m args below meth c X hm
  show VV p l e { frames := 5, cells := 0, slots := 0, locals := 115 } s m args below meth c 4 D ad cA (Afr ad s.heap.size) 0 0 (QI below args s D ad cA (fun z M1 => cChg (opSp x a b) (M 95 2) M z M1 ∧ M1 95 = M 95)) M 0 [(0, .ref (ad 90)), (1, .int (zI x)), (2, .int (zI a)), (3, .int (zI b))] []
  have hsm : 1 ≤ M 6 2 ∧ M 6 2 ≤ 6 := WFs_pos hw.2.2
  have hwb : ∀ k : Nat, (k : Int) < M 6 2 → (1 ≤ M 7 k ∧ M 7 k ≤ 999) ∧ (0 ≤ M 8 k ∧ M 8 k ≤ 100) := fun k hk => WFs_b hw.2.2 hk
  have hW : cWR M := hw.2.1
  have hn5 : 0 ≤ M 1 4 ∧ M 1 4 ≤ 5 := by
    have q1 := hW.2.1
    have q2 := hW.1
    omega
  have hp9 : 1 ≤ M 0 2 ∧ M 0 2 ≤ 99 := hw.1
  obtain ⟨d, hd⟩ : ∃ d : Nat, (d : Int) = M 91 1 + 3 := ⟨(M 91 1 + 3).toNat, by have := hH.1; omega⟩
  have hd10 : d < 10 := by have := hH.1; omega
  have hH1 := hH.1
  have hH2 := hH.2
  refine vv_aload_n X 0 rfl rfl dX8_refine_0 ?_
  refine vv_getr (Nf := 9) (ref := (TX8 1).1) X (by decide) sh_90 rfl 1 (by decide) u_X8_refine_8 k_X8_refine_19 rfl rfl dX8_refine_1 ?_
  refine vv_aload_n X 0 rfl rfl dX8_refine_4 ?_
  refine vv_getr (Nf := 9) (ref := (TX8 0).1) X (by decide) sh_90 rfl 0 (by decide) u_X8_refine_8 k_X8_refine_10 rfl rfl dX8_refine_5 ?_
  refine vv_callVV (As := [.ref (ad 0)]) (st := []) (Nf := 3) X 1 (c_X2_note l D cA had M d (hd10) (by omega) (by omega)) gX8_refine_X2_note rfl (by decide +kernel) ⟨by decide, by decide⟩ (Nat.le_of_ble_eq_true rfl) ⟨by decide, by decide⟩ rfl (by decide) sh_91 rfl rfl dX8_refine_8 (fun Ma qa => ?_)
  have ea : ∀ a, a < 9 → Ma a = M a := fun a ha => qa.1 a (by omega)
  have e91 : Ma 91 = M 91 := qa.1 91 (by omega)
  have e95 : Ma 95 = M 95 := qa.1 95 (by omega)
  have e0 : vC Ma 0 = vC M 0 := vC_eq (fun a _ h => ea a (by omega))
  have hwa : WF (vC Ma 0) := by rw [e0]; exact hw
  have ea0 := ea 0 (by decide)
  have ea1 := ea 1 (by decide)
  have ea6 := ea 6 (by decide)
  have hWa : cWR Ma := hwa.2.1
  have hna : 0 ≤ Ma 1 4 ∧ Ma 1 4 ≤ 5 := by rw [ea1]; exact hn5
  have hpa : 1 ≤ Ma 0 2 ∧ Ma 0 2 ≤ 99 := hwa.1
  refine vv_aload_n X 0 rfl rfl dX8_refine_11 ?_
  refine vv_aload_n X 0 rfl rfl dX8_refine_12 ?_
  refine vv_iload_n X 1 rfl rfl dX8_refine_13 ?_
  refine vv_iload_n X 2 rfl rfl dX8_refine_14 ?_
  refine vv_iload_n X 3 rfl rfl dX8_refine_15 ?_
  refine vv_callVI (As := [.int (zI x), .int (zI a), .int (zI b)]) (st := [.ref (ad 90)]) (Nf := 9) X 3 (c_X8_splitPart l D cA had Ma x a b (by omega) (by omega) (by omega) (hwa.2.2)) gX8_refine_X8_splitPart rfl (by decide +kernel) ⟨by decide, by decide⟩ (Nat.le_of_ble_eq_true rfl) ⟨by decide, by decide⟩ rfl (by decide) sh_90 rfl rfl dX8_refine_16 (fun z16 Mb qb => ?_)
  obtain ⟨hO, hE⟩ := qb
  have hz := opSp_z hwa hO
  have eb91 : Mb 91 = M 91 := (hE 91 (by decide)).trans e91
  refine vv_callVI (As := [.int (zI z16)]) (st := []) (Nf := 9) X 1 (c_X8_recorded l D cA had Mb z16 (by omega) (by rw [eb91]; exact hH1) (by rw [eb91]; exact hH2)) gX8_refine_X8_recorded rfl (by decide +kernel) ⟨by decide, by decide⟩ (Nat.le_of_ble_eq_true rfl) ⟨by decide, by decide⟩ rfl (by decide) sh_90 rfl rfl dX8_refine_19 (fun z19 Mr qr => ?_)
  exact vv_iret X hm (⟨chg_of (op := opSp x a b) hH hd hn5.2 hsm.2 qa hO (fun a ha => hE a (by simp; omega)) (by rw [hE 95 (by decide), e95]) qr, (rec95 qr).trans ((hE 95 (by decide)).trans e95)⟩) dX8_refine_22
theorem u_X8_join_8 : ∀ w ∈ u_ws RX8 TX8 9, w ∈ wsX8_join := by decide +kernel
theorem k_X8_join_10 : Cond.fieldLink yX8_join.cls 10 (TX8 0).1 (TX8 0).2.1 (TX8 0).2.2.1 ∈ wsX8_join := by decide +kernel
theorem k_X8_join_19 : Cond.fieldLink yX8_join.cls 19 (TX8 1).1 (TX8 1).2.1 (TX8 1).2.2.1 ∈ wsX8_join := by decide +kernel
set_option maxRecDepth 100000 in
set_option maxHeartbeats 4000000 in
theorem c_X8_join (l : Launch) (D : va_G) {ad : Nat → Nat} (cA : Nat → ClassId) (had : adok ad) (M : Mem) (x : Int) (hx : -2147483648 ≤ x ∧ x ≤ 2147483647) (hH : HI M) (hw : WF (vC M 0)) : CtI l yX8_join wsX8_join 5 116 D ad cA [.ref (ad 90), .int (zI x)] M (fun z M1 => cChg (opJn x) (M 95 2) M z M1 ∧ M1 95 = M 95) := by
  refine CtI.of (cc := cX8_join) (maxL := 2) (ret := (some .int)) had (by decide) rfl (Nat.le_of_ble_eq_true rfl) ?_
  intro p e s m args below meth c X hm
  show VV p l e { frames := 5, cells := 0, slots := 0, locals := 116 } s m args below meth c 2 D ad cA (Afr ad s.heap.size) 0 0 (QI below args s D ad cA (fun z M1 => cChg (opJn x) (M 95 2) M z M1 ∧ M1 95 = M 95)) M 0 [(0, .ref (ad 90)), (1, .int (zI x))] []
  have hsm : 1 ≤ M 6 2 ∧ M 6 2 ≤ 6 := WFs_pos hw.2.2
  have hwb : ∀ k : Nat, (k : Int) < M 6 2 → (1 ≤ M 7 k ∧ M 7 k ≤ 999) ∧ (0 ≤ M 8 k ∧ M 8 k ≤ 100) := fun k hk => WFs_b hw.2.2 hk
  have hW : cWR M := hw.2.1
  have hn5 : 0 ≤ M 1 4 ∧ M 1 4 ≤ 5 := by
    have q1 := hW.2.1
    have q2 := hW.1
    omega
  have hp9 : 1 ≤ M 0 2 ∧ M 0 2 ≤ 99 := hw.1
  obtain ⟨d, hd⟩ : ∃ d : Nat, (d : Int) = M 91 1 + 3 := ⟨(M 91 1 + 3).toNat, by have := hH.1; omega⟩
  have hd10 : d < 10 := by have := hH.1; omega
  have hH1 := hH.1
  have hH2 := hH.2
  refine vv_aload_n X 0 rfl rfl dX8_join_0 ?_
  refine vv_getr (Nf := 9) (ref := (TX8 1).1) X (by decide) sh_90 rfl 1 (by decide) u_X8_join_8 k_X8_join_19 rfl rfl dX8_join_1 ?_
  refine vv_aload_n X 0 rfl rfl dX8_join_4 ?_
  refine vv_getr (Nf := 9) (ref := (TX8 0).1) X (by decide) sh_90 rfl 0 (by decide) u_X8_join_8 k_X8_join_10 rfl rfl dX8_join_5 ?_
  refine vv_callVV (As := [.ref (ad 0)]) (st := []) (Nf := 3) X 1 (c_X2_note l D cA had M d (hd10) (by omega) (by omega)) gX8_join_X2_note rfl (by decide +kernel) ⟨by decide, by decide⟩ (Nat.le_of_ble_eq_true rfl) ⟨by decide, by decide⟩ rfl (by decide) sh_91 rfl rfl dX8_join_8 (fun Ma qa => ?_)
  have ea : ∀ a, a < 9 → Ma a = M a := fun a ha => qa.1 a (by omega)
  have e91 : Ma 91 = M 91 := qa.1 91 (by omega)
  have e95 : Ma 95 = M 95 := qa.1 95 (by omega)
  have e0 : vC Ma 0 = vC M 0 := vC_eq (fun a _ h => ea a (by omega))
  have hwa : WF (vC Ma 0) := by rw [e0]; exact hw
  have ea0 := ea 0 (by decide)
  have ea1 := ea 1 (by decide)
  have ea6 := ea 6 (by decide)
  have hWa : cWR Ma := hwa.2.1
  have hna : 0 ≤ Ma 1 4 ∧ Ma 1 4 ≤ 5 := by rw [ea1]; exact hn5
  have hpa : 1 ≤ Ma 0 2 ∧ Ma 0 2 ≤ 99 := hwa.1
  refine vv_aload_n X 0 rfl rfl dX8_join_11 ?_
  refine vv_aload_n X 0 rfl rfl dX8_join_12 ?_
  refine vv_iload_n X 1 rfl rfl dX8_join_13 ?_
  refine vv_callVI (As := [.int (zI x)]) (st := [.ref (ad 90)]) (Nf := 9) X 1 (c_X8_joinWithNext l D cA had Ma x (by omega) (hwa.2.2)) gX8_join_X8_joinWithNext rfl (by decide +kernel) ⟨by decide, by decide⟩ (Nat.le_of_ble_eq_true rfl) ⟨by decide, by decide⟩ rfl (by decide) sh_90 rfl rfl dX8_join_14 (fun z14 Mb qb => ?_)
  obtain ⟨hO, hE⟩ := qb
  have hz := opJn_z hO
  have eb91 : Mb 91 = M 91 := (hE 91 (by decide)).trans e91
  refine vv_callVI (As := [.int (zI z14)]) (st := []) (Nf := 9) X 1 (c_X8_recorded l D cA had Mb z14 (by omega) (by rw [eb91]; exact hH1) (by rw [eb91]; exact hH2)) gX8_join_X8_recorded rfl (by decide +kernel) ⟨by decide, by decide⟩ (Nat.le_of_ble_eq_true rfl) ⟨by decide, by decide⟩ rfl (by decide) sh_90 rfl rfl dX8_join_17 (fun z17 Mr qr => ?_)
  exact vv_iret X hm (⟨chg_of (op := opJn x) hH hd hn5.2 hsm.2 qa hO (fun a ha => hE a (by simp; omega)) (by rw [hE 95 (by decide), e95]) qr, (rec95 qr).trans ((hE 95 (by decide)).trans e95)⟩) dX8_join_20
theorem u_X8_adopt_8 : ∀ w ∈ u_ws RX8 TX8 9, w ∈ wsX8_adopt := by decide +kernel
theorem k_X8_adopt_10 : Cond.fieldLink yX8_adopt.cls 10 (TX8 0).1 (TX8 0).2.1 (TX8 0).2.2.1 ∈ wsX8_adopt := by decide +kernel
theorem k_X8_adopt_19 : Cond.fieldLink yX8_adopt.cls 19 (TX8 1).1 (TX8 1).2.1 (TX8 1).2.2.1 ∈ wsX8_adopt := by decide +kernel
set_option maxRecDepth 100000 in
set_option maxHeartbeats 4000000 in
theorem c_X8_adopt (l : Launch) (D : va_G) {ad : Nat → Nat} (cA : Nat → ClassId) (had : adok ad) (M : Mem)  (hH : HI M) (hw : WF (vC M 0)) : CtI l yX8_adopt wsX8_adopt 5 108 D ad cA [.ref (ad 90)] M (fun z M1 => cChg (opB) (M 95 2) M z M1 ∧ M1 95 = M 95) := by
  refine CtI.of (cc := cX8_adopt) (maxL := 1) (ret := (some .int)) had (by decide) rfl (Nat.le_of_ble_eq_true rfl) ?_
  intro p e s m args below meth c X hm
  show VV p l e { frames := 5, cells := 0, slots := 0, locals := 108 } s m args below meth c 1 D ad cA (Afr ad s.heap.size) 0 0 (QI below args s D ad cA (fun z M1 => cChg (opB) (M 95 2) M z M1 ∧ M1 95 = M 95)) M 0 [(0, .ref (ad 90))] []
  have hsm : 1 ≤ M 6 2 ∧ M 6 2 ≤ 6 := WFs_pos hw.2.2
  have hwb : ∀ k : Nat, (k : Int) < M 6 2 → (1 ≤ M 7 k ∧ M 7 k ≤ 999) ∧ (0 ≤ M 8 k ∧ M 8 k ≤ 100) := fun k hk => WFs_b hw.2.2 hk
  have hW : cWR M := hw.2.1
  have hn5 : 0 ≤ M 1 4 ∧ M 1 4 ≤ 5 := by
    have q1 := hW.2.1
    have q2 := hW.1
    omega
  have hp9 : 1 ≤ M 0 2 ∧ M 0 2 ≤ 99 := hw.1
  obtain ⟨d, hd⟩ : ∃ d : Nat, (d : Int) = M 91 1 + 3 := ⟨(M 91 1 + 3).toNat, by have := hH.1; omega⟩
  have hd10 : d < 10 := by have := hH.1; omega
  have hH1 := hH.1
  have hH2 := hH.2
  refine vv_aload_n X 0 rfl rfl dX8_adopt_0 ?_
  refine vv_getr (Nf := 9) (ref := (TX8 1).1) X (by decide) sh_90 rfl 1 (by decide) u_X8_adopt_8 k_X8_adopt_19 rfl rfl dX8_adopt_1 ?_
  refine vv_aload_n X 0 rfl rfl dX8_adopt_4 ?_
  refine vv_getr (Nf := 9) (ref := (TX8 0).1) X (by decide) sh_90 rfl 0 (by decide) u_X8_adopt_8 k_X8_adopt_10 rfl rfl dX8_adopt_5 ?_
  refine vv_callVV (As := [.ref (ad 0)]) (st := []) (Nf := 3) X 1 (c_X2_note l D cA had M d (hd10) (by omega) (by omega)) gX8_adopt_X2_note rfl (by decide +kernel) ⟨by decide, by decide⟩ (Nat.le_of_ble_eq_true rfl) ⟨by decide, by decide⟩ rfl (by decide) sh_91 rfl rfl dX8_adopt_8 (fun Ma qa => ?_)
  have ea : ∀ a, a < 9 → Ma a = M a := fun a ha => qa.1 a (by omega)
  have e91 : Ma 91 = M 91 := qa.1 91 (by omega)
  have e95 : Ma 95 = M 95 := qa.1 95 (by omega)
  have e0 : vC Ma 0 = vC M 0 := vC_eq (fun a _ h => ea a (by omega))
  have hwa : WF (vC Ma 0) := by rw [e0]; exact hw
  have ea0 := ea 0 (by decide)
  have ea1 := ea 1 (by decide)
  have ea6 := ea 6 (by decide)
  have hWa : cWR Ma := hwa.2.1
  have hna : 0 ≤ Ma 1 4 ∧ Ma 1 4 ≤ 5 := by rw [ea1]; exact hn5
  have hpa : 1 ≤ Ma 0 2 ∧ Ma 0 2 ≤ 99 := hwa.1
  refine vv_aload_n X 0 rfl rfl dX8_adopt_11 ?_
  refine vv_aload_n X 0 rfl rfl dX8_adopt_12 ?_
  refine vv_callVI (As := []) (st := [.ref (ad 90)]) (Nf := 9) X 0 (c_X8_takeBest l D cA had Ma (hpa) (hWa)) gX8_adopt_X8_takeBest rfl (by decide +kernel) ⟨by decide, by decide⟩ (Nat.le_of_ble_eq_true rfl) ⟨by decide, by decide⟩ rfl (by decide) sh_90 rfl rfl dX8_adopt_13 (fun z13 Mb qb => ?_)
  obtain ⟨hO, hE⟩ := qb
  have hz := opB_z hO
  have eb91 : Mb 91 = M 91 := (hE 91 (by decide)).trans e91
  refine vv_callVI (As := [.int (zI z13)]) (st := []) (Nf := 9) X 1 (c_X8_recorded l D cA had Mb z13 (by omega) (by rw [eb91]; exact hH1) (by rw [eb91]; exact hH2)) gX8_adopt_X8_recorded rfl (by decide +kernel) ⟨by decide, by decide⟩ (Nat.le_of_ble_eq_true rfl) ⟨by decide, by decide⟩ rfl (by decide) sh_90 rfl rfl dX8_adopt_16 (fun z16 Mr qr => ?_)
  exact vv_iret X hm (⟨chg_of (op := opB) hH hd hn5.2 hsm.2 qa hO (fun a ha => hE a (by simp; omega)) (by rw [hE 95 (by decide), e95]) qr, (rec95 qr).trans ((hE 95 (by decide)).trans e95)⟩) dX8_adopt_19
theorem u_X8_receiver_5 : ∀ w ∈ u_ws RX5 TX5 5, w ∈ wsX8_receiver := by decide +kernel
theorem u_X8_receiver_7 : ∀ w ∈ u_ws RX7 TX7 3, w ∈ wsX8_receiver := by decide +kernel
theorem u_X8_receiver_8 : ∀ w ∈ u_ws RX8 TX8 9, w ∈ wsX8_receiver := by decide +kernel
theorem k_X8_receiver_10 : Cond.fieldLink yX8_receiver.cls 10 (TX8 0).1 (TX8 0).2.1 (TX8 0).2.2.1 ∈ wsX8_receiver := by decide +kernel
theorem k_X8_receiver_73 : Cond.fieldLink yX8_receiver.cls 73 (TX7 0).1 (TX7 0).2.1 (TX7 0).2.2.1 ∈ wsX8_receiver := by decide +kernel
theorem k_X8_receiver_101 : Cond.fieldLink yX8_receiver.cls 101 (TX5 0).1 (TX5 0).2.1 (TX5 0).2.2.1 ∈ wsX8_receiver := by decide +kernel
theorem k_X8_receiver_105 : Cond.fieldLink yX8_receiver.cls 105 (TX5 1).1 (TX5 1).2.1 (TX5 1).2.2.1 ∈ wsX8_receiver := by decide +kernel
theorem k_X8_receiver_108 : Cond.fieldLink yX8_receiver.cls 108 (TX5 2).1 (TX5 2).2.1 (TX5 2).2.2.1 ∈ wsX8_receiver := by decide +kernel
theorem k_X8_receiver_111 : Cond.fieldLink yX8_receiver.cls 111 (TX5 3).1 (TX5 3).2.1 (TX5 3).2.2.1 ∈ wsX8_receiver := by decide +kernel
set_option maxRecDepth 100000 in
set_option maxHeartbeats 4000000 in
theorem c_X8_receiver (l : Launch) (D : va_G) {ad : Nat → Nat} (cA : Nat → ClassId) (had : adok ad) (M : Mem) (r w : Int) (hr : -2147483648 ≤ r ∧ r ≤ 2147483647) (hw : -2147483648 ≤ w ∧ w ≤ 2147483647) (hw : WF (vC M 0)) : CtI l yX8_receiver wsX8_receiver 2 44 D ad cA [.ref (ad 90), .int (zI r), .int (zI w)] M (fun z M1 => qRec r w (vC M 0) z ∧ eqx M M1 [100, 101, 102, 103, 104]) := by
  refine CtI.of (cc := cX8_receiver) (maxL := 4) (ret := (some .int)) had (by decide) rfl (Nat.le_of_ble_eq_true rfl) ?_
  intro p e s m args below meth c X hm
  show VV p l e { frames := 2, cells := 0, slots := 0, locals := 44 } s m args below meth c 4 D ad cA (Afr ad s.heap.size) 0 0 (QI below args s D ad cA (fun z M1 => qRec r w (vC M 0) z ∧ eqx M M1 [100, 101, 102, 103, 104])) M 0 [(0, .ref (ad 90)), (1, .int (zI r)), (2, .int (zI w))] []
  have hsm : 1 ≤ M 6 2 ∧ M 6 2 ≤ 6 := WFs_pos hw.2.2
  have hwb : ∀ k : Nat, (k : Int) < M 6 2 → (1 ≤ M 7 k ∧ M 7 k ≤ 999) ∧ (0 ≤ M 8 k ∧ M 8 k ≤ 100) := fun k hk => WFs_b hw.2.2 hk
  have hW : cWR M := hw.2.1
  have hn5 : 0 ≤ M 1 4 ∧ M 1 4 ≤ 5 := by
    have q1 := hW.2.1
    have q2 := hW.1
    omega
  have hp9 : 1 ≤ M 0 2 ∧ M 0 2 ≤ 99 := hw.1
  refine vv_aload_n X 0 rfl rfl dX8_receiver_0 ?_
  refine vv_getr (Nf := 9) (ref := (TX8 0).1) X (by decide) sh_90 rfl 0 (by decide) u_X8_receiver_8 k_X8_receiver_10 rfl rfl dX8_receiver_1 ?_
  refine vv_getr (Nf := 3) (ref := (TX7 0).1) X (by decide) sh_0 rfl 0 (by decide) u_X8_receiver_7 k_X8_receiver_73 rfl rfl dX8_receiver_4 ?_
  refine vv_astore_n (lv' := [(3, .ref (ad 1)), (0, .ref (ad 90)), (1, .int (zI r)), (2, .int (zI w))]) X rfl (by decide) rfl dX8_receiver_7 ?_
  refine vv_aload_n X 0 rfl rfl dX8_receiver_8 ?_
  refine vv_iload_n X 2 rfl rfl dX8_receiver_9 ?_
  refine vv_callVI (As := [.int (zI r)]) (st := []) (Nf := 5) X 1 (c_X5_has l D cA had M r (by omega) (by omega)) gX8_receiver_X5_has rfl (by decide +kernel) ⟨by decide, by decide⟩ (Nat.le_of_ble_eq_true rfl) ⟨by decide, by decide⟩ rfl (by decide) sh_1 rfl rfl dX8_receiver_10 (fun z10 Mc10 q_10 => ?_)
  obtain ⟨e_z10, g_z10⟩ := q_10
  have g_z10 := g_z10.symm
  subst g_z10
  refine vv_if_ne (tgt := 18) X (by rw [e_z10]; split <;> omega) dX8_receiver_13 (by decide) (fun c_13 => ?_) (fun c_13 => ?_)
  · skip
    have hin : 0 ≤ r ∧ r < M 1 4 := Classical.byContradiction fun q => by rw [if_neg q] at e_z10; omega
    refine vv_iload_n X 3 rfl rfl dX8_receiver_18 ?_
    by_cases c_19 : w < 0 ∨ 4 < w
    · skip
      refine vv_tabOut (tgt := 89) X (by omega) dX8_receiver_19 c_19 (by decide) ?_
      refine vv_bipush (n := (-2)) X (by decide) dX8_receiver_89 ?_
      exact vv_iret X hm (⟨⟨fun q => absurd hin q, fun _ => ⟨fun q => by first | (exfalso; omega) | rfl, fun q => by first | (exfalso; omega) | rfl, fun q => by first | (exfalso; omega) | rfl, fun q => by first | (exfalso; omega) | rfl, fun q => by first | (exfalso; omega) | exact e_z85, fun q => by first | (exfalso; omega) | rfl⟩⟩, eqx_rf _ _⟩) dX8_receiver_91
    by_cases c_19_0 : w = 0
    · skip
      refine vv_tabIn (tgt := 52) (off := 33) X (by omega) dX8_receiver_19 (by omega) (by omega) (by rw [c_19_0]; rfl) (by decide) ?_
      refine vv_aload_n X 0 rfl rfl dX8_receiver_52 ?_
      refine vv_getr (Nf := 5) (ref := (TX5 0).1) X (by decide) sh_1 rfl 0 (by decide) u_X8_receiver_5 k_X8_receiver_101 rfl rfl dX8_receiver_53 ?_
      refine vv_iload_n X 2 rfl rfl dX8_receiver_56 ?_
      refine vv_iald (z := (M 2 (Int.toNat r))) X (by decide) sh_2 (by decide) (by omega) (rfl) dX8_receiver_57 ?_
      exact vv_iret X hm (⟨⟨fun q => absurd hin q, fun _ => ⟨fun q => by first | (exfalso; omega) | rfl, fun q => by first | (exfalso; omega) | rfl, fun q => by first | (exfalso; omega) | rfl, fun q => by first | (exfalso; omega) | rfl, fun q => by first | (exfalso; omega) | exact e_z85, fun q => by first | (exfalso; omega) | rfl⟩⟩, eqx_rf _ _⟩) dX8_receiver_58
    by_cases c_19_1 : w = 1
    · skip
      refine vv_tabIn (tgt := 59) (off := 40) X (by omega) dX8_receiver_19 (by omega) (by omega) (by rw [c_19_1]; rfl) (by decide) ?_
      refine vv_aload_n X 0 rfl rfl dX8_receiver_59 ?_
      refine vv_getr (Nf := 5) (ref := (TX5 1).1) X (by decide) sh_1 rfl 1 (by decide) u_X8_receiver_5 k_X8_receiver_105 rfl rfl dX8_receiver_60 ?_
      refine vv_iload_n X 2 rfl rfl dX8_receiver_63 ?_
      refine vv_iald (z := (M 3 (Int.toNat r))) X (by decide) sh_3 (by decide) (by omega) (rfl) dX8_receiver_64 ?_
      exact vv_iret X hm (⟨⟨fun q => absurd hin q, fun _ => ⟨fun q => by first | (exfalso; omega) | rfl, fun q => by first | (exfalso; omega) | rfl, fun q => by first | (exfalso; omega) | rfl, fun q => by first | (exfalso; omega) | rfl, fun q => by first | (exfalso; omega) | exact e_z85, fun q => by first | (exfalso; omega) | rfl⟩⟩, eqx_rf _ _⟩) dX8_receiver_65
    by_cases c_19_2 : w = 2
    · skip
      refine vv_tabIn (tgt := 66) (off := 47) X (by omega) dX8_receiver_19 (by omega) (by omega) (by rw [c_19_2]; rfl) (by decide) ?_
      refine vv_aload_n X 0 rfl rfl dX8_receiver_66 ?_
      refine vv_getr (Nf := 5) (ref := (TX5 2).1) X (by decide) sh_1 rfl 2 (by decide) u_X8_receiver_5 k_X8_receiver_108 rfl rfl dX8_receiver_67 ?_
      refine vv_iload_n X 2 rfl rfl dX8_receiver_70 ?_
      refine vv_iald (z := (M 4 (Int.toNat r))) X (by decide) sh_4 (by decide) (by omega) (rfl) dX8_receiver_71 ?_
      exact vv_iret X hm (⟨⟨fun q => absurd hin q, fun _ => ⟨fun q => by first | (exfalso; omega) | rfl, fun q => by first | (exfalso; omega) | rfl, fun q => by first | (exfalso; omega) | rfl, fun q => by first | (exfalso; omega) | rfl, fun q => by first | (exfalso; omega) | exact e_z85, fun q => by first | (exfalso; omega) | rfl⟩⟩, eqx_rf _ _⟩) dX8_receiver_72
    by_cases c_19_3 : w = 3
    · skip
      refine vv_tabIn (tgt := 73) (off := 54) X (by omega) dX8_receiver_19 (by omega) (by omega) (by rw [c_19_3]; rfl) (by decide) ?_
      refine vv_aload_n X 0 rfl rfl dX8_receiver_73 ?_
      refine vv_getr (Nf := 5) (ref := (TX5 3).1) X (by decide) sh_1 rfl 3 (by decide) u_X8_receiver_5 k_X8_receiver_111 rfl rfl dX8_receiver_74 ?_
      refine vv_iload_n X 2 rfl rfl dX8_receiver_77 ?_
      refine vv_iald (z := (M 5 (Int.toNat r))) X (by decide) sh_5 (by decide) (by omega) (rfl) dX8_receiver_78 ?_
      refine vv_bipush (n := 100) X (by decide) dX8_receiver_79 ?_
      refine vv_iadd X dX8_receiver_81 ?_
      exact vv_iret X hm (⟨⟨fun q => absurd hin q, fun _ => ⟨fun q => by first | (exfalso; omega) | rfl, fun q => by first | (exfalso; omega) | rfl, fun q => by first | (exfalso; omega) | rfl, fun q => by first | (exfalso; omega) | rfl, fun q => by first | (exfalso; omega) | exact e_z85, fun q => by first | (exfalso; omega) | rfl⟩⟩, eqx_rf _ _⟩) dX8_receiver_82
    have c_19_4 : w = 4 := by omega
    · skip
      refine vv_tabIn (tgt := 83) (off := 64) X (by omega) dX8_receiver_19 (by omega) (by omega) (by rw [c_19_4]; rfl) (by decide) ?_
      refine vv_aload_n X 0 rfl rfl dX8_receiver_83 ?_
      refine vv_iload_n X 2 rfl rfl dX8_receiver_84 ?_
      refine vv_callVI (As := [.int (zI r)]) (st := []) (Nf := 5) X 1 (c_X5_leastActing l D cA had M r (by omega) (by assumption)) gX8_receiver_X5_leastActing rfl (by decide +kernel) ⟨by decide, by decide⟩ (Nat.le_of_ble_eq_true rfl) ⟨by decide, by decide⟩ rfl (by decide) sh_1 rfl rfl dX8_receiver_85 (fun z85 Mc85 q_85 => ?_)
      obtain ⟨e_z85, g_z85⟩ := q_85
      have g_z85 := g_z85.symm
      subst g_z85
      exact vv_iret X hm (⟨⟨fun q => absurd hin q, fun _ => ⟨fun q => by first | (exfalso; omega) | rfl, fun q => by first | (exfalso; omega) | rfl, fun q => by first | (exfalso; omega) | rfl, fun q => by first | (exfalso; omega) | rfl, fun q => by first | (exfalso; omega) | exact e_z85, fun q => by first | (exfalso; omega) | rfl⟩⟩, eqx_rf _ _⟩) dX8_receiver_88
  · skip
    have hin : ¬ (0 ≤ r ∧ r < M 1 4) := fun q => by rw [if_pos q] at e_z10; omega
    refine vv_iconst (n := (-1)) X dX8_receiver_16 ?_
    exact vv_iret X hm (⟨⟨fun _ => rfl, fun q => absurd q hin⟩, eqx_rf _ _⟩) dX8_receiver_17
theorem u_X8_part_6 : ∀ w ∈ u_ws RX6 TX6 3, w ∈ wsX8_part := by decide +kernel
theorem u_X8_part_7 : ∀ w ∈ u_ws RX7 TX7 3, w ∈ wsX8_part := by decide +kernel
theorem u_X8_part_8 : ∀ w ∈ u_ws RX8 TX8 9, w ∈ wsX8_part := by decide +kernel
theorem k_X8_part_10 : Cond.fieldLink yX8_part.cls 10 (TX8 0).1 (TX8 0).2.1 (TX8 0).2.2.1 ∈ wsX8_part := by decide +kernel
theorem k_X8_part_73 : Cond.fieldLink yX8_part.cls 73 (TX7 0).1 (TX7 0).2.1 (TX7 0).2.2.1 ∈ wsX8_part := by decide +kernel
theorem k_X8_part_117 : Cond.fieldLink yX8_part.cls 117 (TX7 1).1 (TX7 1).2.1 (TX7 1).2.2.1 ∈ wsX8_part := by decide +kernel
theorem k_X8_part_124 : Cond.fieldLink yX8_part.cls 124 (TX6 0).1 (TX6 0).2.1 (TX6 0).2.2.1 ∈ wsX8_part := by decide +kernel
theorem k_X8_part_127 : Cond.fieldLink yX8_part.cls 127 (TX6 1).1 (TX6 1).2.1 (TX6 1).2.2.1 ∈ wsX8_part := by decide +kernel
set_option maxRecDepth 100000 in
set_option maxHeartbeats 4000000 in
theorem c_X8_part (l : Launch) (D : va_G) {ad : Nat → Nat} (cA : Nat → ClassId) (had : adok ad) (M : Mem) (r w : Int) (hr : -2147483648 ≤ r ∧ r ≤ 2147483647) (hw : -2147483648 ≤ w ∧ w ≤ 2147483647) (hw : WF (vC M 0)) : CtI l yX8_part wsX8_part 2 47 D ad cA [.ref (ad 90), .int (zI r), .int (zI w)] M (fun z M1 => qPart r w (vC M 0) z ∧ eqx M M1 [100, 101, 102, 103, 104]) := by
  refine CtI.of (cc := cX8_part) (maxL := 4) (ret := (some .int)) had (by decide) rfl (Nat.le_of_ble_eq_true rfl) ?_
  intro p e s m args below meth c X hm
  show VV p l e { frames := 2, cells := 0, slots := 0, locals := 47 } s m args below meth c 4 D ad cA (Afr ad s.heap.size) 0 0 (QI below args s D ad cA (fun z M1 => qPart r w (vC M 0) z ∧ eqx M M1 [100, 101, 102, 103, 104])) M 0 [(0, .ref (ad 90)), (1, .int (zI r)), (2, .int (zI w))] []
  have hsm : 1 ≤ M 6 2 ∧ M 6 2 ≤ 6 := WFs_pos hw.2.2
  have hwb : ∀ k : Nat, (k : Int) < M 6 2 → (1 ≤ M 7 k ∧ M 7 k ≤ 999) ∧ (0 ≤ M 8 k ∧ M 8 k ≤ 100) := fun k hk => WFs_b hw.2.2 hk
  have hW : cWR M := hw.2.1
  have hn5 : 0 ≤ M 1 4 ∧ M 1 4 ≤ 5 := by
    have q1 := hW.2.1
    have q2 := hW.1
    omega
  have hp9 : 1 ≤ M 0 2 ∧ M 0 2 ≤ 99 := hw.1
  refine vv_aload_n X 0 rfl rfl dX8_part_0 ?_
  refine vv_getr (Nf := 9) (ref := (TX8 0).1) X (by decide) sh_90 rfl 0 (by decide) u_X8_part_8 k_X8_part_10 rfl rfl dX8_part_1 ?_
  refine vv_getr (Nf := 3) (ref := (TX7 1).1) X (by decide) sh_0 rfl 1 (by decide) u_X8_part_7 k_X8_part_117 rfl rfl dX8_part_4 ?_
  refine vv_astore_n (lv' := [(3, .ref (ad 6)), (0, .ref (ad 90)), (1, .int (zI r)), (2, .int (zI w))]) X rfl (by decide) rfl dX8_part_7 ?_
  refine vv_aload_n X 0 rfl rfl dX8_part_8 ?_
  refine vv_iload_n X 2 rfl rfl dX8_part_9 ?_
  refine vv_callVI (As := [.int (zI r)]) (st := []) (Nf := 3) X 1 (c_X6_has l D cA had M r (by omega) (by omega)) gX8_part_X6_has rfl (by decide +kernel) ⟨by decide, by decide⟩ (Nat.le_of_ble_eq_true rfl) ⟨by decide, by decide⟩ rfl (by decide) sh_6 rfl rfl dX8_part_10 (fun z10 Mc10 q_10 => ?_)
  obtain ⟨e_z10, g_z10⟩ := q_10
  have g_z10 := g_z10.symm
  subst g_z10
  refine vv_if_ne (tgt := 18) X (by rw [e_z10]; split <;> omega) dX8_part_13 (by decide) (fun c_13 => ?_) (fun c_13 => ?_)
  · skip
    have hin : 0 ≤ r ∧ r < M 6 2 := Classical.byContradiction fun q => by rw [if_neg q] at e_z10; omega
    have hwr := hwb r.toNat (by omega)
    refine vv_iload_n X 3 rfl rfl dX8_part_18 ?_
    by_cases c_19 : w < 0 ∨ 3 < w
    · skip
      refine vv_tabOut (tgt := 100) X (by omega) dX8_part_19 c_19 (by decide) ?_
      refine vv_bipush (n := (-2)) X (by decide) dX8_part_100 ?_
      exact vv_iret X hm (⟨⟨fun q => absurd hin q, fun _ => ⟨fun q => by first | (exfalso; omega) | rfl, fun q => by first | (exfalso; omega) | rfl, fun q => by first | (exfalso; omega) | exact e_z75, fun q => by first | (exfalso; omega) | (rw [e_z92]; rfl), fun q => by first | (exfalso; omega) | rfl⟩⟩, eqx_rf _ _⟩) dX8_part_102
    by_cases c_19_0 : w = 0
    · skip
      refine vv_tabIn (tgt := 48) (off := 29) X (by omega) dX8_part_19 (by omega) (by omega) (by rw [c_19_0]; rfl) (by decide) ?_
      refine vv_aload_n X 0 rfl rfl dX8_part_48 ?_
      refine vv_getr (Nf := 3) (ref := (TX6 0).1) X (by decide) sh_6 rfl 0 (by decide) u_X8_part_6 k_X8_part_124 rfl rfl dX8_part_49 ?_
      refine vv_iload_n X 2 rfl rfl dX8_part_52 ?_
      refine vv_iald (z := (M 7 (Int.toNat r))) X (by decide) sh_7 (by decide) (by omega) (rfl) dX8_part_53 ?_
      exact vv_iret X hm (⟨⟨fun q => absurd hin q, fun _ => ⟨fun q => by first | (exfalso; omega) | rfl, fun q => by first | (exfalso; omega) | rfl, fun q => by first | (exfalso; omega) | exact e_z75, fun q => by first | (exfalso; omega) | (rw [e_z92]; rfl), fun q => by first | (exfalso; omega) | rfl⟩⟩, eqx_rf _ _⟩) dX8_part_54
    by_cases c_19_1 : w = 1
    · skip
      refine vv_tabIn (tgt := 55) (off := 36) X (by omega) dX8_part_19 (by omega) (by omega) (by rw [c_19_1]; rfl) (by decide) ?_
      refine vv_aload_n X 0 rfl rfl dX8_part_55 ?_
      refine vv_getr (Nf := 3) (ref := (TX6 1).1) X (by decide) sh_6 rfl 1 (by decide) u_X8_part_6 k_X8_part_127 rfl rfl dX8_part_56 ?_
      refine vv_iload_n X 2 rfl rfl dX8_part_59 ?_
      refine vv_iald (z := (M 8 (Int.toNat r))) X (by decide) sh_8 (by decide) (by omega) (rfl) dX8_part_60 ?_
      exact vv_iret X hm (⟨⟨fun q => absurd hin q, fun _ => ⟨fun q => by first | (exfalso; omega) | rfl, fun q => by first | (exfalso; omega) | rfl, fun q => by first | (exfalso; omega) | exact e_z75, fun q => by first | (exfalso; omega) | (rw [e_z92]; rfl), fun q => by first | (exfalso; omega) | rfl⟩⟩, eqx_rf _ _⟩) dX8_part_61
    by_cases c_19_2 : w = 2
    · skip
      refine vv_tabIn (tgt := 62) (off := 43) X (by omega) dX8_part_19 (by omega) (by omega) (by rw [c_19_2]; rfl) (by decide) ?_
      refine vv_aload_n X 1 rfl rfl dX8_part_62 ?_
      refine vv_getr (Nf := 9) (ref := (TX8 0).1) X (by decide) sh_90 rfl 0 (by decide) u_X8_part_8 k_X8_part_10 rfl rfl dX8_part_63 ?_
      refine vv_getr (Nf := 3) (ref := (TX7 0).1) X (by decide) sh_0 rfl 0 (by decide) u_X8_part_7 k_X8_part_73 rfl rfl dX8_part_66 ?_
      refine vv_aload_n X 0 rfl rfl dX8_part_69 ?_
      refine vv_getr (Nf := 3) (ref := (TX6 1).1) X (by decide) sh_6 rfl 1 (by decide) u_X8_part_6 k_X8_part_127 rfl rfl dX8_part_70 ?_
      refine vv_iload_n X 2 rfl rfl dX8_part_73 ?_
      refine vv_iald (z := (M 8 (Int.toNat r))) X (by decide) sh_8 (by decide) (by omega) (rfl) dX8_part_74 ?_
      refine vv_callVI (As := [.int (zI (M 8 (Int.toNat r)))]) (st := []) (Nf := 5) X 1 (c_X5_actingAt l D cA had M (M 8 (Int.toNat r)) (by omega) (by assumption)) gX8_part_X5_actingAt rfl (by decide +kernel) ⟨by decide, by decide⟩ (Nat.le_of_ble_eq_true rfl) ⟨by decide, by decide⟩ rfl (by decide) sh_1 rfl rfl dX8_part_75 (fun z75 Mc75 q_75 => ?_)
      obtain ⟨e_z75, g_z75⟩ := q_75
      have g_z75 := g_z75.symm
      subst g_z75
      exact vv_iret X hm (⟨⟨fun q => absurd hin q, fun _ => ⟨fun q => by first | (exfalso; omega) | rfl, fun q => by first | (exfalso; omega) | rfl, fun q => by first | (exfalso; omega) | exact e_z75, fun q => by first | (exfalso; omega) | (rw [e_z92]; rfl), fun q => by first | (exfalso; omega) | rfl⟩⟩, eqx_rf _ _⟩) dX8_part_78
    have c_19_3 : w = 3 := by omega
    · skip
      refine vv_tabIn (tgt := 79) (off := 60) X (by omega) dX8_part_19 (by omega) (by omega) (by rw [c_19_3]; rfl) (by decide) ?_
      refine vv_aload_n X 1 rfl rfl dX8_part_79 ?_
      refine vv_getr (Nf := 9) (ref := (TX8 0).1) X (by decide) sh_90 rfl 0 (by decide) u_X8_part_8 k_X8_part_10 rfl rfl dX8_part_80 ?_
      refine vv_getr (Nf := 3) (ref := (TX7 0).1) X (by decide) sh_0 rfl 0 (by decide) u_X8_part_7 k_X8_part_73 rfl rfl dX8_part_83 ?_
      refine vv_aload_n X 0 rfl rfl dX8_part_86 ?_
      refine vv_getr (Nf := 3) (ref := (TX6 1).1) X (by decide) sh_6 rfl 1 (by decide) u_X8_part_6 k_X8_part_127 rfl rfl dX8_part_87 ?_
      refine vv_iload_n X 2 rfl rfl dX8_part_90 ?_
      refine vv_iald (z := (M 8 (Int.toNat r))) X (by decide) sh_8 (by decide) (by omega) (rfl) dX8_part_91 ?_
      refine vv_callVI (As := [.int (zI (M 8 (Int.toNat r)))]) (st := []) (Nf := 5) X 1 (c_X5_valueAt l D cA had M (M 8 (Int.toNat r)) (by omega) (by assumption)) gX8_part_X5_valueAt rfl (by decide +kernel) ⟨by decide, by decide⟩ (Nat.le_of_ble_eq_true rfl) ⟨by decide, by decide⟩ rfl (by decide) sh_1 rfl rfl dX8_part_92 (fun z92 Mc92 q_92 => ?_)
      obtain ⟨e_z92, g_z92⟩ := q_92
      have g_z92 := g_z92.symm
      subst g_z92
      refine vv_sipush (n := 1000) X (by decide) dX8_part_95 ?_
      refine vv_iadd X dX8_part_98 ?_
      exact vv_iret X hm (⟨⟨fun q => absurd hin q, fun _ => ⟨fun q => by first | (exfalso; omega) | rfl, fun q => by first | (exfalso; omega) | rfl, fun q => by first | (exfalso; omega) | exact e_z75, fun q => by first | (exfalso; omega) | (rw [e_z92]; rfl), fun q => by first | (exfalso; omega) | rfl⟩⟩, eqx_rf _ _⟩) dX8_part_99
  · skip
    have hin : ¬ (0 ≤ r ∧ r < M 6 2) := fun q => by rw [if_pos q] at e_z10; omega
    refine vv_iconst (n := (-1)) X dX8_part_16 ?_
    exact vv_iret X hm (⟨⟨fun _ => rfl, fun q => absurd q hin⟩, eqx_rf _ _⟩) dX8_part_17
theorem u_X8_value_7 : ∀ w ∈ u_ws RX7 TX7 3, w ∈ wsX8_value := by decide +kernel
theorem u_X8_value_8 : ∀ w ∈ u_ws RX8 TX8 9, w ∈ wsX8_value := by decide +kernel
theorem k_X8_value_10 : Cond.fieldLink yX8_value.cls 10 (TX8 0).1 (TX8 0).2.1 (TX8 0).2.2.1 ∈ wsX8_value := by decide +kernel
theorem k_X8_value_73 : Cond.fieldLink yX8_value.cls 73 (TX7 0).1 (TX7 0).2.1 (TX7 0).2.2.1 ∈ wsX8_value := by decide +kernel
set_option maxRecDepth 100000 in
set_option maxHeartbeats 4000000 in
theorem c_X8_value (l : Launch) (D : va_G) {ad : Nat → Nat} (cA : Nat → ClassId) (had : adok ad) (M : Mem) (x : Int) (hx : -2147483648 ≤ x ∧ x ≤ 2147483647) (hw : WF (vC M 0)) : CtI l yX8_value wsX8_value 2 47 D ad cA [.ref (ad 90), .int (zI x)] M (fun z M1 => qVal x (vC M 0) z ∧ eqx M M1 [100, 101, 102, 103, 104]) := by
  refine CtI.of (cc := cX8_value) (maxL := 2) (ret := (some .int)) had (by decide) rfl (Nat.le_of_ble_eq_true rfl) ?_
  intro p e s m args below meth c X hm
  show VV p l e { frames := 2, cells := 0, slots := 0, locals := 47 } s m args below meth c 2 D ad cA (Afr ad s.heap.size) 0 0 (QI below args s D ad cA (fun z M1 => qVal x (vC M 0) z ∧ eqx M M1 [100, 101, 102, 103, 104])) M 0 [(0, .ref (ad 90)), (1, .int (zI x))] []
  have hsm : 1 ≤ M 6 2 ∧ M 6 2 ≤ 6 := WFs_pos hw.2.2
  have hwb : ∀ k : Nat, (k : Int) < M 6 2 → (1 ≤ M 7 k ∧ M 7 k ≤ 999) ∧ (0 ≤ M 8 k ∧ M 8 k ≤ 100) := fun k hk => WFs_b hw.2.2 hk
  have hW : cWR M := hw.2.1
  have hn5 : 0 ≤ M 1 4 ∧ M 1 4 ≤ 5 := by
    have q1 := hW.2.1
    have q2 := hW.1
    omega
  have hp9 : 1 ≤ M 0 2 ∧ M 0 2 ≤ 99 := hw.1
  refine vv_iload_n X 1 rfl rfl dX8_value_0 ?_
  refine vv_callSI (As := [.int (zI x)]) (st := []) X 1 (c_X8_isPosterior l D cA had M x (by omega)) gX8_value_X8_isPosterior rfl (by decide +kernel) ⟨by decide, by decide⟩ (Nat.le_of_ble_eq_true rfl) ⟨by decide, by decide⟩ rfl rfl dX8_value_1 (fun z1 Mc1 q_1 => ?_)
  obtain ⟨e_z1, g_z1⟩ := q_1
  have g_z1 := g_z1.symm
  subst g_z1
  refine vv_if_ne (tgt := 10) X (by rw [e_z1]; split <;> omega) dX8_value_4 (by decide) (fun c_4 => ?_) (fun c_4 => ?_)
  · skip
    have hin : 0 ≤ x ∧ x ≤ 100 := Classical.byContradiction fun q => by rw [if_neg q] at e_z1; omega
    refine vv_aload_n X 0 rfl rfl dX8_value_10 ?_
    refine vv_getr (Nf := 9) (ref := (TX8 0).1) X (by decide) sh_90 rfl 0 (by decide) u_X8_value_8 k_X8_value_10 rfl rfl dX8_value_11 ?_
    refine vv_getr (Nf := 3) (ref := (TX7 0).1) X (by decide) sh_0 rfl 0 (by decide) u_X8_value_7 k_X8_value_73 rfl rfl dX8_value_14 ?_
    refine vv_iload_n X 1 rfl rfl dX8_value_17 ?_
    refine vv_callVI (As := [.int (zI x)]) (st := []) (Nf := 5) X 1 (c_X5_valueAt l D cA had M x (by omega) (by assumption)) gX8_value_X5_valueAt rfl (by decide +kernel) ⟨by decide, by decide⟩ (Nat.le_of_ble_eq_true rfl) ⟨by decide, by decide⟩ rfl (by decide) sh_1 rfl rfl dX8_value_18 (fun z18 Mc18 q_18 => ?_)
    obtain ⟨e_z18, g_z18⟩ := q_18
    have g_z18 := g_z18.symm
    subst g_z18
    refine vv_sipush (n := 1000) X (by decide) dX8_value_21 ?_
    refine vv_iadd X dX8_value_24 ?_
    exact vv_iret X hm (⟨⟨fun q => absurd hin q, fun _ => by rw [e_z18]; rfl⟩, eqx_rf _ _⟩) dX8_value_25
  · skip
    have hin : ¬ (0 ≤ x ∧ x ≤ 100) := fun q => by rw [if_pos q] at e_z1; omega
    refine vv_bipush (n := (-2)) X (by decide) dX8_value_7 ?_
    exact vv_iret X hm (⟨⟨fun _ => rfl, fun q => absurd q hin⟩, eqx_rf _ _⟩) dX8_value_9
theorem u_X8_mean_1 : ∀ w ∈ u_ws RX1 TX1 2, w ∈ wsX8_mean := by decide +kernel
theorem u_X8_mean_8 : ∀ w ∈ u_ws RX8 TX8 9, w ∈ wsX8_mean := by decide +kernel
theorem k_X8_mean_10 : Cond.fieldLink yX8_mean.cls 10 (TX8 0).1 (TX8 0).2.1 (TX8 0).2.2.1 ∈ wsX8_mean := by decide +kernel
theorem k_X8_mean_55 : Cond.fieldLink yX8_mean.cls 55 (TX8 7).1 (TX8 7).2.1 (TX8 7).2.2.1 ∈ wsX8_mean := by decide +kernel
theorem k_X8_mean_146 : Cond.fieldLink yX8_mean.cls 146 (TX1 0).1 (TX1 0).2.1 (TX1 0).2.2.1 ∈ wsX8_mean := by decide +kernel
theorem k_X8_mean_151 : Cond.fieldLink yX8_mean.cls 151 (TX1 1).1 (TX1 1).2.1 (TX1 1).2.2.1 ∈ wsX8_mean := by decide +kernel
set_option maxRecDepth 100000 in
set_option maxHeartbeats 4000000 in
theorem c_X8_mean (l : Launch) (D : va_G) {ad : Nat → Nat} (cA : Nat → ClassId) (had : adok ad) (M : Mem) (w : Int) (hw : -2147483648 ≤ w ∧ w ≤ 2147483647) (hw : WF (vC M 0)) : CtI l yX8_mean wsX8_mean 4 92 D ad cA [.ref (ad 90), .int (zI w)] M (fun z M1 => qMean w (vC M 0) z ∧ eqx M M1 [100, 101, 102, 103, 104]) := by
  refine CtI.of (cc := cX8_mean) (maxL := 2) (ret := (some .int)) had (by decide) rfl (Nat.le_of_ble_eq_true rfl) ?_
  intro p e s m args below meth c X hm
  show VV p l e { frames := 4, cells := 0, slots := 0, locals := 92 } s m args below meth c 2 D ad cA (Afr ad s.heap.size) 0 0 (QI below args s D ad cA (fun z M1 => qMean w (vC M 0) z ∧ eqx M M1 [100, 101, 102, 103, 104])) M 0 [(0, .ref (ad 90)), (1, .int (zI w))] []
  have hsm : 1 ≤ M 6 2 ∧ M 6 2 ≤ 6 := WFs_pos hw.2.2
  have hwb : ∀ k : Nat, (k : Int) < M 6 2 → (1 ≤ M 7 k ∧ M 7 k ≤ 999) ∧ (0 ≤ M 8 k ∧ M 8 k ≤ 100) := fun k hk => WFs_b hw.2.2 hk
  have hW : cWR M := hw.2.1
  have hn5 : 0 ≤ M 1 4 ∧ M 1 4 ≤ 5 := by
    have q1 := hW.2.1
    have q2 := hW.1
    omega
  have hp9 : 1 ≤ M 0 2 ∧ M 0 2 ≤ 99 := hw.1
  refine vv_iload_n X 1 rfl rfl dX8_mean_0 ?_
  refine vv_callSI (As := [.int (zI w)]) (st := []) X 1 (c_X8_isHalfOfFraction l D cA had M w (by omega)) gX8_mean_X8_isHalfOfFraction rfl (by decide +kernel) ⟨by decide, by decide⟩ (Nat.le_of_ble_eq_true rfl) ⟨by decide, by decide⟩ rfl rfl dX8_mean_1 (fun z1 Mc1 q_1 => ?_)
  obtain ⟨e_z1, g_z1⟩ := q_1
  have g_z1 := g_z1.symm
  subst g_z1
  refine vv_if_ne (tgt := 10) X (by rw [e_z1]; split <;> omega) dX8_mean_4 (by decide) (fun c_4 => ?_) (fun c_4 => ?_)
  · skip
    have hin : w = 0 ∨ w = 1 := Classical.byContradiction fun q => by rw [if_neg q] at e_z1; omega
    refine vv_aload_n X 0 rfl rfl dX8_mean_10 ?_
    refine vv_getr (Nf := 9) (ref := (TX8 0).1) X (by decide) sh_90 rfl 0 (by decide) u_X8_mean_8 k_X8_mean_10 rfl rfl dX8_mean_11 ?_
    refine vv_aload_n X 0 rfl rfl dX8_mean_14 ?_
    refine vv_getr (Nf := 9) (ref := (TX8 7).1) X (by decide) sh_90 rfl 7 (by decide) u_X8_mean_8 k_X8_mean_55 rfl rfl dX8_mean_15 ?_
    refine vv_callVV (As := [.ref (ad 103)]) (st := []) (Nf := 3) X 1 (c_X7_tellMeanValue l D cA had M (by omega) (by assumption) (by assumption)) gX8_mean_X7_tellMeanValue rfl (by decide +kernel) ⟨by decide, by decide⟩ (Nat.le_of_ble_eq_true rfl) ⟨by decide, by decide⟩ rfl (by decide) sh_0 rfl rfl dX8_mean_18 (fun Mc18 q_18 => ?_)
    have em0 : Mc18 103 0 = frA (mnS (vC M 0)) (mnT (vC M 0)) := by rw [q_18]; rfl
    have em1 : Mc18 103 1 = frB (mnS (vC M 0)) (mnT (vC M 0)) := by rw [q_18]; rfl
    have hE : eqx M Mc18 [100, 101, 102, 103, 104] := by rw [q_18]; exact eqx_up _ _ (eqx_up _ _ (eqx_rf _ _) (by decide)) (by decide)
    refine vv_iload_n X 1 rfl rfl dX8_mean_21 ?_
    refine vv_if_ne (tgt := 38) X (by omega) dX8_mean_22 (by decide) (fun c_22 => ?_) (fun c_22 => ?_)
    · skip
      refine vv_aload_n X 0 rfl rfl dX8_mean_38 ?_
      refine vv_getr (Nf := 9) (ref := (TX8 7).1) X (by decide) sh_90 rfl 7 (by decide) u_X8_mean_8 k_X8_mean_55 rfl rfl dX8_mean_39 ?_
      refine vv_geti (Nf := 2) (ref := (TX1 1).1) (z := (Mc18 103 1)) X (by decide) sh_103 rfl 1 (by decide) u_X8_mean_1 k_X8_mean_151 rfl rfl (rfl) dX8_mean_42 ?_
      exact vv_iret X hm (⟨⟨fun q => absurd hin q, fun q => by first | (exfalso; omega) | rw [em0], fun q => by first | (exfalso; omega) | exact em1⟩, hE⟩) dX8_mean_45
    · skip
      refine vv_aload_n X 0 rfl rfl dX8_mean_25 ?_
      refine vv_getr (Nf := 9) (ref := (TX8 7).1) X (by decide) sh_90 rfl 7 (by decide) u_X8_mean_8 k_X8_mean_55 rfl rfl dX8_mean_26 ?_
      refine vv_geti (Nf := 2) (ref := (TX1 0).1) (z := (Mc18 103 0)) X (by decide) sh_103 rfl 0 (by decide) u_X8_mean_1 k_X8_mean_146 rfl rfl (rfl) dX8_mean_29 ?_
      refine vv_ldc (n := 10000000) (v := 10000000) X (by decide +kernel) (by decide) dX8_mean_32 ?_
      refine vv_iadd X dX8_mean_34 ?_
      refine vv_goto (tgt := 45) X (by decide) dX8_mean_35 ?_
      exact vv_iret X hm (⟨⟨fun q => absurd hin q, fun q => by first | (exfalso; omega) | rw [em0], fun q => by first | (exfalso; omega) | exact em1⟩, hE⟩) dX8_mean_45
  · skip
    have hin : ¬ (w = 0 ∨ w = 1) := fun q => by rw [if_pos q] at e_z1; omega
    refine vv_bipush (n := (-2)) X (by decide) dX8_mean_7 ?_
    exact vv_iret X hm (⟨⟨fun _ => rfl, fun q => by first | (exfalso; omega) | omega, fun q => by first | (exfalso; omega) | omega⟩, eqx_rf _ _⟩) dX8_mean_9
theorem u_X8_worth_1 : ∀ w ∈ u_ws RX1 TX1 2, w ∈ wsX8_worth := by decide +kernel
theorem u_X8_worth_7 : ∀ w ∈ u_ws RX7 TX7 3, w ∈ wsX8_worth := by decide +kernel
theorem u_X8_worth_8 : ∀ w ∈ u_ws RX8 TX8 9, w ∈ wsX8_worth := by decide +kernel
theorem k_X8_worth_10 : Cond.fieldLink yX8_worth.cls 10 (TX8 0).1 (TX8 0).2.1 (TX8 0).2.2.1 ∈ wsX8_worth := by decide +kernel
theorem k_X8_worth_55 : Cond.fieldLink yX8_worth.cls 55 (TX8 7).1 (TX8 7).2.1 (TX8 7).2.2.1 ∈ wsX8_worth := by decide +kernel
theorem k_X8_worth_73 : Cond.fieldLink yX8_worth.cls 73 (TX7 0).1 (TX7 0).2.1 (TX7 0).2.2.1 ∈ wsX8_worth := by decide +kernel
theorem k_X8_worth_146 : Cond.fieldLink yX8_worth.cls 146 (TX1 0).1 (TX1 0).2.1 (TX1 0).2.2.1 ∈ wsX8_worth := by decide +kernel
theorem k_X8_worth_151 : Cond.fieldLink yX8_worth.cls 151 (TX1 1).1 (TX1 1).2.1 (TX1 1).2.2.1 ∈ wsX8_worth := by decide +kernel
set_option maxRecDepth 100000 in
set_option maxHeartbeats 4000000 in
theorem c_X8_worth (l : Launch) (D : va_G) {ad : Nat → Nat} (cA : Nat → ClassId) (had : adok ad) (M : Mem) (r w : Int) (hr : -2147483648 ≤ r ∧ r ≤ 2147483647) (hw : -2147483648 ≤ w ∧ w ≤ 2147483647) (hw : WF (vC M 0)) : CtI l yX8_worth wsX8_worth 4 93 D ad cA [.ref (ad 90), .int (zI r), .int (zI w)] M (fun z M1 => qWor r w (vC M 0) z ∧ eqx M M1 [100, 101, 102, 103, 104]) := by
  refine CtI.of (cc := cX8_worth) (maxL := 3) (ret := (some .int)) had (by decide) rfl (Nat.le_of_ble_eq_true rfl) ?_
  intro p e s m args below meth c X hm
  show VV p l e { frames := 4, cells := 0, slots := 0, locals := 93 } s m args below meth c 3 D ad cA (Afr ad s.heap.size) 0 0 (QI below args s D ad cA (fun z M1 => qWor r w (vC M 0) z ∧ eqx M M1 [100, 101, 102, 103, 104])) M 0 [(0, .ref (ad 90)), (1, .int (zI r)), (2, .int (zI w))] []
  have hsm : 1 ≤ M 6 2 ∧ M 6 2 ≤ 6 := WFs_pos hw.2.2
  have hwb : ∀ k : Nat, (k : Int) < M 6 2 → (1 ≤ M 7 k ∧ M 7 k ≤ 999) ∧ (0 ≤ M 8 k ∧ M 8 k ≤ 100) := fun k hk => WFs_b hw.2.2 hk
  have hW : cWR M := hw.2.1
  have hn5 : 0 ≤ M 1 4 ∧ M 1 4 ≤ 5 := by
    have q1 := hW.2.1
    have q2 := hW.1
    omega
  have hp9 : 1 ≤ M 0 2 ∧ M 0 2 ≤ 99 := hw.1
  refine vv_aload_n X 0 rfl rfl dX8_worth_0 ?_
  refine vv_getr (Nf := 9) (ref := (TX8 0).1) X (by decide) sh_90 rfl 0 (by decide) u_X8_worth_8 k_X8_worth_10 rfl rfl dX8_worth_1 ?_
  refine vv_getr (Nf := 3) (ref := (TX7 0).1) X (by decide) sh_0 rfl 0 (by decide) u_X8_worth_7 k_X8_worth_73 rfl rfl dX8_worth_4 ?_
  refine vv_iload_n X 1 rfl rfl dX8_worth_7 ?_
  refine vv_callVI (As := [.int (zI r)]) (st := []) (Nf := 5) X 1 (c_X5_has l D cA had M r (by omega) (by omega)) gX8_worth_X5_has rfl (by decide +kernel) ⟨by decide, by decide⟩ (Nat.le_of_ble_eq_true rfl) ⟨by decide, by decide⟩ rfl (by decide) sh_1 rfl rfl dX8_worth_8 (fun z8 Mc8 q_8 => ?_)
  obtain ⟨e_z8, g_z8⟩ := q_8
  have g_z8 := g_z8.symm
  subst g_z8
  refine vv_if_ne (tgt := 16) X (by rw [e_z8]; split <;> omega) dX8_worth_11 (by decide) (fun c_11 => ?_) (fun c_11 => ?_)
  · skip
    have hin : 0 ≤ r ∧ r < M 1 4 := Classical.byContradiction fun q => by rw [if_neg q] at e_z8; omega
    refine vv_iload_n X 2 rfl rfl dX8_worth_16 ?_
    refine vv_callSI (As := [.int (zI w)]) (st := []) X 1 (c_X8_isHalfOfFraction l D cA had M w (by omega)) gX8_worth_X8_isHalfOfFraction rfl (by decide +kernel) ⟨by decide, by decide⟩ (Nat.le_of_ble_eq_true rfl) ⟨by decide, by decide⟩ rfl rfl dX8_worth_17 (fun z17 Mc17 q_17 => ?_)
    obtain ⟨e_z17, g_z17⟩ := q_17
    have g_z17 := g_z17.symm
    subst g_z17
    refine vv_if_ne (tgt := 26) X (by rw [e_z17]; split <;> omega) dX8_worth_20 (by decide) (fun c_20 => ?_) (fun c_20 => ?_)
    · skip
      have hin2 : w = 0 ∨ w = 1 := Classical.byContradiction fun q => by rw [if_neg q] at e_z17; omega
      refine vv_aload_n X 0 rfl rfl dX8_worth_26 ?_
      refine vv_getr (Nf := 9) (ref := (TX8 0).1) X (by decide) sh_90 rfl 0 (by decide) u_X8_worth_8 k_X8_worth_10 rfl rfl dX8_worth_27 ?_
      refine vv_iload_n X 1 rfl rfl dX8_worth_30 ?_
      refine vv_aload_n X 0 rfl rfl dX8_worth_31 ?_
      refine vv_getr (Nf := 9) (ref := (TX8 7).1) X (by decide) sh_90 rfl 7 (by decide) u_X8_worth_8 k_X8_worth_55 rfl rfl dX8_worth_32 ?_
      refine vv_callVV (As := [.int (zI r), .ref (ad 103)]) (st := []) (Nf := 3) X 2 (c_X7_tellMeanWorth l D cA had M r (by omega) (by omega) (by assumption) (by assumption)) gX8_worth_X7_tellMeanWorth rfl (by decide +kernel) ⟨by decide, by decide⟩ (Nat.le_of_ble_eq_true rfl) ⟨by decide, by decide⟩ rfl (by decide) sh_0 rfl rfl dX8_worth_35 (fun Mc35 q_35 => ?_)
      have em0 : Mc35 103 0 = frA (woS (vC M 0) r.toNat) (mnT (vC M 0) * 100) := by rw [q_35]; rfl
      have em1 : Mc35 103 1 = frB (woS (vC M 0) r.toNat) (mnT (vC M 0) * 100) := by rw [q_35]; rfl
      have hE : eqx M Mc35 [100, 101, 102, 103, 104] := by rw [q_35]; exact eqx_up _ _ (eqx_up _ _ (eqx_rf _ _) (by decide)) (by decide)
      refine vv_iload_n X 2 rfl rfl dX8_worth_38 ?_
      refine vv_if_ne (tgt := 52) X (by omega) dX8_worth_39 (by decide) (fun c_39 => ?_) (fun c_39 => ?_)
      · skip
        refine vv_aload_n X 0 rfl rfl dX8_worth_52 ?_
        refine vv_getr (Nf := 9) (ref := (TX8 7).1) X (by decide) sh_90 rfl 7 (by decide) u_X8_worth_8 k_X8_worth_55 rfl rfl dX8_worth_53 ?_
        refine vv_geti (Nf := 2) (ref := (TX1 1).1) (z := (Mc35 103 1)) X (by decide) sh_103 rfl 1 (by decide) u_X8_worth_1 k_X8_worth_151 rfl rfl (rfl) dX8_worth_56 ?_
        exact vv_iret X hm (⟨⟨fun q => absurd hin q, fun _ => ⟨fun q => absurd hin2 q, fun q => by first | (exfalso; omega) | exact em0, fun q => by first | (exfalso; omega) | exact em1⟩⟩, hE⟩) dX8_worth_59
      · skip
        refine vv_aload_n X 0 rfl rfl dX8_worth_42 ?_
        refine vv_getr (Nf := 9) (ref := (TX8 7).1) X (by decide) sh_90 rfl 7 (by decide) u_X8_worth_8 k_X8_worth_55 rfl rfl dX8_worth_43 ?_
        refine vv_geti (Nf := 2) (ref := (TX1 0).1) (z := (Mc35 103 0)) X (by decide) sh_103 rfl 0 (by decide) u_X8_worth_1 k_X8_worth_146 rfl rfl (rfl) dX8_worth_46 ?_
        refine vv_goto (tgt := 59) X (by decide) dX8_worth_49 ?_
        exact vv_iret X hm (⟨⟨fun q => absurd hin q, fun _ => ⟨fun q => absurd hin2 q, fun q => by first | (exfalso; omega) | exact em0, fun q => by first | (exfalso; omega) | exact em1⟩⟩, hE⟩) dX8_worth_59
    · skip
      have hin2 : ¬ (w = 0 ∨ w = 1) := fun q => by rw [if_pos q] at e_z17; omega
      refine vv_bipush (n := (-2)) X (by decide) dX8_worth_23 ?_
      exact vv_iret X hm (⟨⟨fun q => absurd hin q, fun _ => ⟨fun _ => rfl, fun q => by first | (exfalso; omega) | omega, fun q => by first | (exfalso; omega) | omega⟩⟩, eqx_rf _ _⟩) dX8_worth_25
  · skip
    have hin : ¬ (0 ≤ r ∧ r < M 1 4) := fun q => by rw [if_pos q] at e_z8; omega
    refine vv_iconst (n := (-1)) X dX8_worth_14 ?_
    exact vv_iret X hm (⟨⟨fun _ => rfl, fun q => absurd q hin⟩, eqx_rf _ _⟩) dX8_worth_15
theorem u_X8_meanIsEnvelope_1 : ∀ w ∈ u_ws RX1 TX1 2, w ∈ wsX8_meanIsEnvelope := by decide +kernel
theorem u_X8_meanIsEnvelope_7 : ∀ w ∈ u_ws RX7 TX7 3, w ∈ wsX8_meanIsEnvelope := by decide +kernel
theorem u_X8_meanIsEnvelope_8 : ∀ w ∈ u_ws RX8 TX8 9, w ∈ wsX8_meanIsEnvelope := by decide +kernel
theorem k_X8_meanIsEnvelope_10 : Cond.fieldLink yX8_meanIsEnvelope.cls 10 (TX8 0).1 (TX8 0).2.1 (TX8 0).2.2.1 ∈ wsX8_meanIsEnvelope := by decide +kernel
theorem k_X8_meanIsEnvelope_48 : Cond.fieldLink yX8_meanIsEnvelope.cls 48 (TX8 6).1 (TX8 6).2.1 (TX8 6).2.2.1 ∈ wsX8_meanIsEnvelope := by decide +kernel
theorem k_X8_meanIsEnvelope_55 : Cond.fieldLink yX8_meanIsEnvelope.cls 55 (TX8 7).1 (TX8 7).2.1 (TX8 7).2.2.1 ∈ wsX8_meanIsEnvelope := by decide +kernel
theorem k_X8_meanIsEnvelope_59 : Cond.fieldLink yX8_meanIsEnvelope.cls 59 (TX8 8).1 (TX8 8).2.1 (TX8 8).2.2.1 ∈ wsX8_meanIsEnvelope := by decide +kernel
theorem k_X8_meanIsEnvelope_146 : Cond.fieldLink yX8_meanIsEnvelope.cls 146 (TX1 0).1 (TX1 0).2.1 (TX1 0).2.2.1 ∈ wsX8_meanIsEnvelope := by decide +kernel
theorem k_X8_meanIsEnvelope_151 : Cond.fieldLink yX8_meanIsEnvelope.cls 151 (TX1 1).1 (TX1 1).2.1 (TX1 1).2.2.1 ∈ wsX8_meanIsEnvelope := by decide +kernel
theorem k_X8_meanIsEnvelope_158 : Cond.fieldLink yX8_meanIsEnvelope.cls 158 (TX7 2).1 (TX7 2).2.1 (TX7 2).2.2.1 ∈ wsX8_meanIsEnvelope := by decide +kernel
set_option maxRecDepth 100000 in
set_option maxHeartbeats 4000000 in
theorem c_X8_meanIsEnvelope (l : Launch) (D : va_G) {ad : Nat → Nat} (cA : Nat → ClassId) (had : adok ad) (M : Mem) (hw : WF (vC M 0)) : CtI l yX8_meanIsEnvelope wsX8_meanIsEnvelope 4 92 D ad cA [.ref (ad 90)] M (fun z M1 => (∃ lo hi : Int, isB (vA (vC M 0)) (vC M 0).1 lo hi ∧ z = if frA (mnS (vC M 0)) (mnT (vC M 0)) = frA (sN (vA (vC M 0)) (vC M 0).1 lo hi) (sD lo hi) ∧ frB (mnS (vC M 0)) (mnT (vC M 0)) = frB (sN (vA (vC M 0)) (vC M 0).1 lo hi) (sD lo hi) then 1 else 0) ∧ eqx M M1 [100, 101, 102, 103, 104]) := by
  refine CtI.of (cc := cX8_meanIsEnvelope) (maxL := 1) (ret := (some .boolean)) had (by decide) rfl (Nat.le_of_ble_eq_true rfl) ?_
  intro p e s m args below meth c X hm
  show VV p l e { frames := 4, cells := 0, slots := 0, locals := 92 } s m args below meth c 1 D ad cA (Afr ad s.heap.size) 0 0 (QI below args s D ad cA (fun z M1 => (∃ lo hi : Int, isB (vA (vC M 0)) (vC M 0).1 lo hi ∧ z = if frA (mnS (vC M 0)) (mnT (vC M 0)) = frA (sN (vA (vC M 0)) (vC M 0).1 lo hi) (sD lo hi) ∧ frB (mnS (vC M 0)) (mnT (vC M 0)) = frB (sN (vA (vC M 0)) (vC M 0).1 lo hi) (sD lo hi) then 1 else 0) ∧ eqx M M1 [100, 101, 102, 103, 104])) M 0 [(0, .ref (ad 90))] []
  have hsm : 1 ≤ M 6 2 ∧ M 6 2 ≤ 6 := WFs_pos hw.2.2
  have hwb : ∀ k : Nat, (k : Int) < M 6 2 → (1 ≤ M 7 k ∧ M 7 k ≤ 999) ∧ (0 ≤ M 8 k ∧ M 8 k ≤ 100) := fun k hk => WFs_b hw.2.2 hk
  have hW : cWR M := hw.2.1
  have hn5 : 0 ≤ M 1 4 ∧ M 1 4 ≤ 5 := by
    have q1 := hW.2.1
    have q2 := hW.1
    omega
  have hp9 : 1 ≤ M 0 2 ∧ M 0 2 ≤ 99 := hw.1
  refine vv_aload_n X 0 rfl rfl dX8_meanIsEnvelope_0 ?_
  refine vv_getr (Nf := 9) (ref := (TX8 0).1) X (by decide) sh_90 rfl 0 (by decide) u_X8_meanIsEnvelope_8 k_X8_meanIsEnvelope_10 rfl rfl dX8_meanIsEnvelope_1 ?_
  refine vv_aload_n X 0 rfl rfl dX8_meanIsEnvelope_4 ?_
  refine vv_getr (Nf := 9) (ref := (TX8 7).1) X (by decide) sh_90 rfl 7 (by decide) u_X8_meanIsEnvelope_8 k_X8_meanIsEnvelope_55 rfl rfl dX8_meanIsEnvelope_5 ?_
  refine vv_callVV (As := [.ref (ad 103)]) (st := []) (Nf := 3) X 1 (c_X7_tellMeanValue l D cA had M (by omega) (by assumption) (by assumption)) gX8_meanIsEnvelope_X7_tellMeanValue rfl (by decide +kernel) ⟨by decide, by decide⟩ (Nat.le_of_ble_eq_true rfl) ⟨by decide, by decide⟩ rfl (by decide) sh_0 rfl rfl dX8_meanIsEnvelope_8 (fun Mc8 q_8 => ?_)
  have em0 : Mc8 103 0 = frA (mnS (vC M 0)) (mnT (vC M 0)) := by rw [q_8]; rfl
  have em1 : Mc8 103 1 = frB (mnS (vC M 0)) (mnT (vC M 0)) := by rw [q_8]; rfl
  have hE8 : eqx M Mc8 [100, 101, 102, 103, 104] := by rw [q_8]; exact eqx_up _ _ (eqx_up _ _ (eqx_rf _ _) (by decide)) (by decide)
  have hW8 : cWR Mc8 := by rw [q_8]; exact hW
  have ec8 : cvl Mc8 = vA (vC M 0) := by rw [q_8]; rfl
  have e08 : Mc8 0 2 = M 0 2 := by rw [q_8]; rfl
  refine vv_aload_n X 0 rfl rfl dX8_meanIsEnvelope_11 ?_
  refine vv_aload_n X 0 rfl rfl dX8_meanIsEnvelope_12 ?_
  refine vv_getr (Nf := 9) (ref := (TX8 0).1) X (by decide) sh_90 rfl 0 (by decide) u_X8_meanIsEnvelope_8 k_X8_meanIsEnvelope_10 rfl rfl dX8_meanIsEnvelope_13 ?_
  refine vv_geti (Nf := 3) (ref := (TX7 2).1) (z := (Mc8 0 2)) X (by decide) sh_0 rfl 2 (by decide) u_X8_meanIsEnvelope_7 k_X8_meanIsEnvelope_158 rfl rfl (rfl) dX8_meanIsEnvelope_16 ?_
  refine vv_callVV (As := [.int (zI (Mc8 0 2))]) (st := []) (Nf := 9) X 1 (c_X8_aimAt l D cA had Mc8 (Mc8 0 2) (by omega) (by assumption)) gX8_meanIsEnvelope_X8_aimAt rfl (by decide +kernel) ⟨by decide, by decide⟩ (Nat.le_of_ble_eq_true rfl) ⟨by decide, by decide⟩ rfl (by decide) sh_90 rfl rfl dX8_meanIsEnvelope_19 (fun Mc19 q_19 => ?_)
  obtain ⟨E19, V19, B19, L19, U19⟩ := q_19
  have e_Mc19_0 : Mc19 0 = Mc8 0 := (E19 0 (by decide)).trans (show Mc8 0 = Mc8 0 from rfl)
  have e_Mc19_1 : Mc19 1 = Mc8 1 := (E19 1 (by decide)).trans (show Mc8 1 = Mc8 1 from rfl)
  have e_Mc19_2 : Mc19 2 = Mc8 2 := (E19 2 (by decide)).trans (show Mc8 2 = Mc8 2 from rfl)
  have e_Mc19_3 : Mc19 3 = Mc8 3 := (E19 3 (by decide)).trans (show Mc8 3 = Mc8 3 from rfl)
  have e_Mc19_4 : Mc19 4 = Mc8 4 := (E19 4 (by decide)).trans (show Mc8 4 = Mc8 4 from rfl)
  have e_Mc19_5 : Mc19 5 = Mc8 5 := (E19 5 (by decide)).trans (show Mc8 5 = Mc8 5 from rfl)
  have e_Mc19_6 : Mc19 6 = Mc8 6 := (E19 6 (by decide)).trans (show Mc8 6 = Mc8 6 from rfl)
  have e_Mc19_7 : Mc19 7 = Mc8 7 := (E19 7 (by decide)).trans (show Mc8 7 = Mc8 7 from rfl)
  have e_Mc19_8 : Mc19 8 = Mc8 8 := (E19 8 (by decide)).trans (show Mc8 8 = Mc8 8 from rfl)
  have e_Mc19_99 : Mc19 99 = Mc8 99 := (E19 99 (by decide)).trans (show Mc8 99 = Mc8 99 from rfl)
  have e_Mc19_103 : Mc19 103 = Mc8 103 := (E19 103 (by decide)).trans (show Mc8 103 = Mc8 103 from rfl)
  have e_Mc19_104 : Mc19 104 = Mc8 104 := (E19 104 (by decide)).trans (show Mc8 104 = Mc8 104 from rfl)
  obtain ⟨cr, cw, cp, cv, cN, cD, cx⟩ := cu_f (M := Mc8) (by first | exact hW | exact hW8) (show 0 ≤ Mc8 0 2 ∧ Mc8 0 2 ≤ 100 by omega) V19 B19 L19 U19
  have hBv : isB (vA (vC M 0)) (vC M 0).1 (Mc19 100 3) (Mc19 100 4) := by
    have q := B19
    rw [ec8, e08] at q
    exact q
  rw [ec8, e08] at cN
  rw [e08] at cD
  have fe := fr_env (v := vA (vC M 0)) hBv.1
  have f1 : frA (Mc19 100 5 * Mc19 101 (Mc19 100 3).toNat + Mc19 100 6 * Mc19 101 (Mc19 100 4).toNat) (Mc19 100 5 + Mc19 100 6) = frA (sN (vA (vC M 0)) (vC M 0).1 (Mc19 100 3) (Mc19 100 4)) (sD (Mc19 100 3) (Mc19 100 4)) := by rw [cN, cD]; exact fe.1
  have f2 : frB (Mc19 100 5 * Mc19 101 (Mc19 100 3).toNat + Mc19 100 6 * Mc19 101 (Mc19 100 4).toNat) (Mc19 100 5 + Mc19 100 6) = frB (sN (vA (vC M 0)) (vC M 0).1 (Mc19 100 3) (Mc19 100 4)) (sD (Mc19 100 3) (Mc19 100 4)) := by rw [cN, cD]; exact fe.2
  refine vv_aload_n X 0 rfl rfl dX8_meanIsEnvelope_22 ?_
  refine vv_getr (Nf := 9) (ref := (TX8 6).1) X (by decide) sh_90 rfl 6 (by decide) u_X8_meanIsEnvelope_8 k_X8_meanIsEnvelope_48 rfl rfl dX8_meanIsEnvelope_23 ?_
  refine vv_aload_n X 0 rfl rfl dX8_meanIsEnvelope_26 ?_
  refine vv_getr (Nf := 9) (ref := (TX8 8).1) X (by decide) sh_90 rfl 8 (by decide) u_X8_meanIsEnvelope_8 k_X8_meanIsEnvelope_59 rfl rfl dX8_meanIsEnvelope_27 ?_
  refine vv_callVV (As := [.ref (ad 104)]) (st := []) (Nf := 7) X 1 (c_X0_tellEnvelope_104 l D cA had Mc19 (cr.1) (cr.2) (cw.1) (cw.2) (cp) (cv)) gX8_meanIsEnvelope_X0_tellEnvelope rfl (by decide +kernel) ⟨by decide, by decide⟩ (Nat.le_of_ble_eq_true rfl) ⟨by decide, by decide⟩ rfl (by decide) sh_100 rfl rfl dX8_meanIsEnvelope_30 (fun Mc30 q_30 => ?_)
  have hE : eqx M Mc30 [100, 101, 102, 103, 104] := by
    rw [q_30]
    exact eqx_up _ _ (eqx_up _ _ (eqx_tr hE8 (eqx_mono E19 (by decide))) (by decide)) (by decide)
  have g0 : Mc30 103 = Mc8 103 := by rw [q_30, up2_n _ _ _ (by decide), up2_n _ _ _ (by decide), E19 103 (by decide)]
  have g1 : Mc30 104 0 = frA (sN (vA (vC M 0)) (vC M 0).1 (Mc19 100 3) (Mc19 100 4)) (sD (Mc19 100 3) (Mc19 100 4)) := by rw [q_30, up2_m _ _ _ (by decide), up2_s]; exact f1
  have g2 : Mc30 104 1 = frB (sN (vA (vC M 0)) (vC M 0).1 (Mc19 100 3) (Mc19 100 4)) (sD (Mc19 100 3) (Mc19 100 4)) := by rw [q_30, up2_s]; exact f2
  have g3 : Mc30 103 0 = frA (mnS (vC M 0)) (mnT (vC M 0)) := by rw [g0]; exact em0
  have g4 : Mc30 103 1 = frB (mnS (vC M 0)) (mnT (vC M 0)) := by rw [g0]; exact em1
  have b1 := fr_b (a := mnS (vC M 0)) (b := mnT (vC M 0)) (A := 1073741824) (by have := mn_b hw; omega) (by have := mn_b hw; omega)
  have b2 := fr_b (a := sN (vA (vC M 0)) (vC M 0).1 (Mc19 100 3) (Mc19 100 4)) (b := sD (Mc19 100 3) (Mc19 100 4)) (A := 198000) (sN_b (fun y => vl_b hW.2) (by have : (vC M 0).1 = M 0 2 := rfl; omega) hBv.1) (sD_pos hBv.1)
  have b3 := mn_b hw
  have b4 := sD_b (by have : (vC M 0).1 = M 0 2 := rfl; omega) hBv.1
  refine vv_aload_n X 0 rfl rfl dX8_meanIsEnvelope_33 ?_
  refine vv_getr (Nf := 9) (ref := (TX8 7).1) X (by decide) sh_90 rfl 7 (by decide) u_X8_meanIsEnvelope_8 k_X8_meanIsEnvelope_55 rfl rfl dX8_meanIsEnvelope_34 ?_
  refine vv_geti (Nf := 2) (ref := (TX1 0).1) (z := (Mc30 103 0)) X (by decide) sh_103 rfl 0 (by decide) u_X8_meanIsEnvelope_1 k_X8_meanIsEnvelope_146 rfl rfl (rfl) dX8_meanIsEnvelope_37 ?_
  refine vv_aload_n X 0 rfl rfl dX8_meanIsEnvelope_40 ?_
  refine vv_getr (Nf := 9) (ref := (TX8 8).1) X (by decide) sh_90 rfl 8 (by decide) u_X8_meanIsEnvelope_8 k_X8_meanIsEnvelope_59 rfl rfl dX8_meanIsEnvelope_41 ?_
  refine vv_geti (Nf := 2) (ref := (TX1 0).1) (z := (Mc30 104 0)) X (by decide) sh_104 rfl 0 (by decide) u_X8_meanIsEnvelope_1 k_X8_meanIsEnvelope_146 rfl rfl (rfl) dX8_meanIsEnvelope_44 ?_
  refine vv_icmp_ne (tgt := 71) X (by omega) (by omega) dX8_meanIsEnvelope_47 (by decide) (fun c_47 => ?_) (fun c_47 => ?_)
  · skip
    refine vv_iconst (n := 0) X dX8_meanIsEnvelope_71 ?_
    exact vv_zret X hm (by omega) (⟨⟨Mc19 100 3, Mc19 100 4, hBv, by
      first
      | rw [if_pos ⟨by omega, by omega⟩]
      | rw [if_neg (fun q => by have q1 := q.1; have q2 := q.2; omega)]⟩, hE⟩) dX8_meanIsEnvelope_72
  · skip
    refine vv_aload_n X 0 rfl rfl dX8_meanIsEnvelope_50 ?_
    refine vv_getr (Nf := 9) (ref := (TX8 7).1) X (by decide) sh_90 rfl 7 (by decide) u_X8_meanIsEnvelope_8 k_X8_meanIsEnvelope_55 rfl rfl dX8_meanIsEnvelope_51 ?_
    refine vv_geti (Nf := 2) (ref := (TX1 1).1) (z := (Mc30 103 1)) X (by decide) sh_103 rfl 1 (by decide) u_X8_meanIsEnvelope_1 k_X8_meanIsEnvelope_151 rfl rfl (rfl) dX8_meanIsEnvelope_54 ?_
    refine vv_aload_n X 0 rfl rfl dX8_meanIsEnvelope_57 ?_
    refine vv_getr (Nf := 9) (ref := (TX8 8).1) X (by decide) sh_90 rfl 8 (by decide) u_X8_meanIsEnvelope_8 k_X8_meanIsEnvelope_59 rfl rfl dX8_meanIsEnvelope_58 ?_
    refine vv_geti (Nf := 2) (ref := (TX1 1).1) (z := (Mc30 104 1)) X (by decide) sh_104 rfl 1 (by decide) u_X8_meanIsEnvelope_1 k_X8_meanIsEnvelope_151 rfl rfl (rfl) dX8_meanIsEnvelope_61 ?_
    refine vv_icmp_ne (tgt := 71) X (by omega) (by omega) dX8_meanIsEnvelope_64 (by decide) (fun c_64 => ?_) (fun c_64 => ?_)
    · skip
      refine vv_iconst (n := 0) X dX8_meanIsEnvelope_71 ?_
      exact vv_zret X hm (by omega) (⟨⟨Mc19 100 3, Mc19 100 4, hBv, by
        first
        | rw [if_pos ⟨by omega, by omega⟩]
        | rw [if_neg (fun q => by have q1 := q.1; have q2 := q.2; omega)]⟩, hE⟩) dX8_meanIsEnvelope_72
    · skip
      refine vv_iconst (n := 1) X dX8_meanIsEnvelope_67 ?_
      refine vv_goto (tgt := 72) X (by decide) dX8_meanIsEnvelope_68 ?_
      exact vv_zret X hm (by omega) (⟨⟨Mc19 100 3, Mc19 100 4, hBv, by
        first
        | rw [if_pos ⟨by omega, by omega⟩]
        | rw [if_neg (fun q => by have q1 := q.1; have q2 := q.2; omega)]⟩, hE⟩) dX8_meanIsEnvelope_72
theorem u_X8_count_2 : ∀ w ∈ u_ws RX2 TX2 3, w ∈ wsX8_count := by decide +kernel
theorem u_X8_count_4 : ∀ w ∈ u_ws RX4 TX4 6, w ∈ wsX8_count := by decide +kernel
theorem u_X8_count_5 : ∀ w ∈ u_ws RX5 TX5 5, w ∈ wsX8_count := by decide +kernel
theorem u_X8_count_6 : ∀ w ∈ u_ws RX6 TX6 3, w ∈ wsX8_count := by decide +kernel
theorem u_X8_count_7 : ∀ w ∈ u_ws RX7 TX7 3, w ∈ wsX8_count := by decide +kernel
theorem u_X8_count_8 : ∀ w ∈ u_ws RX8 TX8 9, w ∈ wsX8_count := by decide +kernel
theorem k_X8_count_10 : Cond.fieldLink yX8_count.cls 10 (TX8 0).1 (TX8 0).2.1 (TX8 0).2.2.1 ∈ wsX8_count := by decide +kernel
theorem k_X8_count_19 : Cond.fieldLink yX8_count.cls 19 (TX8 1).1 (TX8 1).2.1 (TX8 1).2.2.1 ∈ wsX8_count := by decide +kernel
theorem k_X8_count_34 : Cond.fieldLink yX8_count.cls 34 (TX8 4).1 (TX8 4).2.1 (TX8 4).2.2.1 ∈ wsX8_count := by decide +kernel
theorem k_X8_count_73 : Cond.fieldLink yX8_count.cls 73 (TX7 0).1 (TX7 0).2.1 (TX7 0).2.2.1 ∈ wsX8_count := by decide +kernel
theorem k_X8_count_117 : Cond.fieldLink yX8_count.cls 117 (TX7 1).1 (TX7 1).2.1 (TX7 1).2.2.1 ∈ wsX8_count := by decide +kernel
theorem k_X8_count_158 : Cond.fieldLink yX8_count.cls 158 (TX7 2).1 (TX7 2).2.1 (TX7 2).2.2.1 ∈ wsX8_count := by decide +kernel
theorem k_X8_count_161 : Cond.fieldLink yX8_count.cls 161 (TX5 4).1 (TX5 4).2.1 (TX5 4).2.2.1 ∈ wsX8_count := by decide +kernel
theorem k_X8_count_164 : Cond.fieldLink yX8_count.cls 164 (TX6 2).1 (TX6 2).2.1 (TX6 2).2.2.1 ∈ wsX8_count := by decide +kernel
theorem k_X8_count_174 : Cond.fieldLink yX8_count.cls 174 (TX4 2).1 (TX4 2).2.1 (TX4 2).2.2.1 ∈ wsX8_count := by decide +kernel
theorem k_X8_count_177 : Cond.fieldLink yX8_count.cls 177 (TX2 2).1 (TX2 2).2.1 (TX2 2).2.2.1 ∈ wsX8_count := by decide +kernel
set_option maxRecDepth 100000 in
set_option maxHeartbeats 4000000 in
theorem c_X8_count (l : Launch) (D : va_G) {ad : Nat → Nat} (cA : Nat → ClassId) (had : adok ad) (M : Mem) (w : Int) (hw : -2147483648 ≤ w ∧ w ≤ 2147483647) (hw : WF (vC M 0)) : CtI l yX8_count wsX8_count 5 112 D ad cA [.ref (ad 90), .int (zI w)] M (fun z M1 => qCnt w (vC M 0) z ∧ (w = 5 → z = M 95 2) ∧ (w = 6 → z = M 91 2) ∧ eqx M M1 [100, 101, 102, 103, 104]) := by
  refine CtI.of (cc := cX8_count) (maxL := 2) (ret := (some .int)) had (by decide) rfl (Nat.le_of_ble_eq_true rfl) ?_
  intro p e s m args below meth c X hm
  show VV p l e { frames := 5, cells := 0, slots := 0, locals := 112 } s m args below meth c 2 D ad cA (Afr ad s.heap.size) 0 0 (QI below args s D ad cA (fun z M1 => qCnt w (vC M 0) z ∧ (w = 5 → z = M 95 2) ∧ (w = 6 → z = M 91 2) ∧ eqx M M1 [100, 101, 102, 103, 104])) M 0 [(0, .ref (ad 90)), (1, .int (zI w))] []
  have hsm : 1 ≤ M 6 2 ∧ M 6 2 ≤ 6 := WFs_pos hw.2.2
  have hwb : ∀ k : Nat, (k : Int) < M 6 2 → (1 ≤ M 7 k ∧ M 7 k ≤ 999) ∧ (0 ≤ M 8 k ∧ M 8 k ≤ 100) := fun k hk => WFs_b hw.2.2 hk
  have hW : cWR M := hw.2.1
  have hn5 : 0 ≤ M 1 4 ∧ M 1 4 ≤ 5 := by
    have q1 := hW.2.1
    have q2 := hW.1
    omega
  have hp9 : 1 ≤ M 0 2 ∧ M 0 2 ≤ 99 := hw.1
  refine vv_iload_n X 1 rfl rfl dX8_count_0 ?_
  by_cases c_1 : w < 0 ∨ 6 < w
  · skip
    refine vv_tabOut (tgt := 114) X (by omega) dX8_count_1 c_1 (by decide) ?_
    refine vv_bipush (n := (-2)) X (by decide) dX8_count_114 ?_
    exact vv_iret X hm (⟨⟨fun q => by first | (exfalso; omega) | rfl, fun q => by first | (exfalso; omega) | rfl, fun q => by first | (exfalso; omega) | rfl, fun q => by first | (exfalso; omega) | exact e_z81, fun q => by first | (exfalso; omega) | rfl, fun q => by first | (exfalso; omega) | rfl⟩, fun q => by first | (exfalso; omega) | rfl, fun q => by first | (exfalso; omega) | rfl, eqx_rf _ _⟩) dX8_count_116
  by_cases c_1_0 : w = 0
  · skip
    refine vv_tabIn (tgt := 44) (off := 43) X (by omega) dX8_count_1 (by omega) (by omega) (by rw [c_1_0]; rfl) (by decide) ?_
    refine vv_aload_n X 0 rfl rfl dX8_count_44 ?_
    refine vv_getr (Nf := 9) (ref := (TX8 0).1) X (by decide) sh_90 rfl 0 (by decide) u_X8_count_8 k_X8_count_10 rfl rfl dX8_count_45 ?_
    refine vv_geti (Nf := 3) (ref := (TX7 2).1) (z := (M 0 2)) X (by decide) sh_0 rfl 2 (by decide) u_X8_count_7 k_X8_count_158 rfl rfl (rfl) dX8_count_48 ?_
    exact vv_iret X hm (⟨⟨fun q => by first | (exfalso; omega) | rfl, fun q => by first | (exfalso; omega) | rfl, fun q => by first | (exfalso; omega) | rfl, fun q => by first | (exfalso; omega) | exact e_z81, fun q => by first | (exfalso; omega) | rfl, fun q => by first | (exfalso; omega) | rfl⟩, fun q => by first | (exfalso; omega) | rfl, fun q => by first | (exfalso; omega) | rfl, eqx_rf _ _⟩) dX8_count_51
  by_cases c_1_1 : w = 1
  · skip
    refine vv_tabIn (tgt := 52) (off := 51) X (by omega) dX8_count_1 (by omega) (by omega) (by rw [c_1_1]; rfl) (by decide) ?_
    refine vv_aload_n X 0 rfl rfl dX8_count_52 ?_
    refine vv_getr (Nf := 9) (ref := (TX8 0).1) X (by decide) sh_90 rfl 0 (by decide) u_X8_count_8 k_X8_count_10 rfl rfl dX8_count_53 ?_
    refine vv_getr (Nf := 3) (ref := (TX7 0).1) X (by decide) sh_0 rfl 0 (by decide) u_X8_count_7 k_X8_count_73 rfl rfl dX8_count_56 ?_
    refine vv_geti (Nf := 5) (ref := (TX5 4).1) (z := (M 1 4)) X (by decide) sh_1 rfl 4 (by decide) u_X8_count_5 k_X8_count_161 rfl rfl (rfl) dX8_count_59 ?_
    exact vv_iret X hm (⟨⟨fun q => by first | (exfalso; omega) | rfl, fun q => by first | (exfalso; omega) | rfl, fun q => by first | (exfalso; omega) | rfl, fun q => by first | (exfalso; omega) | exact e_z81, fun q => by first | (exfalso; omega) | rfl, fun q => by first | (exfalso; omega) | rfl⟩, fun q => by first | (exfalso; omega) | rfl, fun q => by first | (exfalso; omega) | rfl, eqx_rf _ _⟩) dX8_count_62
  by_cases c_1_2 : w = 2
  · skip
    refine vv_tabIn (tgt := 63) (off := 62) X (by omega) dX8_count_1 (by omega) (by omega) (by rw [c_1_2]; rfl) (by decide) ?_
    refine vv_aload_n X 0 rfl rfl dX8_count_63 ?_
    refine vv_getr (Nf := 9) (ref := (TX8 0).1) X (by decide) sh_90 rfl 0 (by decide) u_X8_count_8 k_X8_count_10 rfl rfl dX8_count_64 ?_
    refine vv_getr (Nf := 3) (ref := (TX7 1).1) X (by decide) sh_0 rfl 1 (by decide) u_X8_count_7 k_X8_count_117 rfl rfl dX8_count_67 ?_
    refine vv_geti (Nf := 3) (ref := (TX6 2).1) (z := (M 6 2)) X (by decide) sh_6 rfl 2 (by decide) u_X8_count_6 k_X8_count_164 rfl rfl (rfl) dX8_count_70 ?_
    exact vv_iret X hm (⟨⟨fun q => by first | (exfalso; omega) | rfl, fun q => by first | (exfalso; omega) | rfl, fun q => by first | (exfalso; omega) | rfl, fun q => by first | (exfalso; omega) | exact e_z81, fun q => by first | (exfalso; omega) | rfl, fun q => by first | (exfalso; omega) | rfl⟩, fun q => by first | (exfalso; omega) | rfl, fun q => by first | (exfalso; omega) | rfl, eqx_rf _ _⟩) dX8_count_73
  by_cases c_1_3 : w = 3
  · skip
    refine vv_tabIn (tgt := 74) (off := 73) X (by omega) dX8_count_1 (by omega) (by omega) (by rw [c_1_3]; rfl) (by decide) ?_
    refine vv_aload_n X 0 rfl rfl dX8_count_74 ?_
    refine vv_getr (Nf := 9) (ref := (TX8 0).1) X (by decide) sh_90 rfl 0 (by decide) u_X8_count_8 k_X8_count_10 rfl rfl dX8_count_75 ?_
    refine vv_getr (Nf := 3) (ref := (TX7 1).1) X (by decide) sh_0 rfl 1 (by decide) u_X8_count_7 k_X8_count_117 rfl rfl dX8_count_78 ?_
    refine vv_callVI (As := []) (st := []) (Nf := 3) X 0 (c_X6_weightSum l D cA had M (by omega)) gX8_count_X6_weightSum rfl (by decide +kernel) ⟨by decide, by decide⟩ (Nat.le_of_ble_eq_true rfl) ⟨by decide, by decide⟩ rfl (by decide) sh_6 rfl rfl dX8_count_81 (fun z81 Mc81 q_81 => ?_)
    obtain ⟨e_z81, g_z81⟩ := q_81
    have g_z81 := g_z81.symm
    subst g_z81
    exact vv_iret X hm (⟨⟨fun q => by first | (exfalso; omega) | rfl, fun q => by first | (exfalso; omega) | rfl, fun q => by first | (exfalso; omega) | rfl, fun q => by first | (exfalso; omega) | exact e_z81, fun q => by first | (exfalso; omega) | rfl, fun q => by first | (exfalso; omega) | rfl⟩, fun q => by first | (exfalso; omega) | rfl, fun q => by first | (exfalso; omega) | rfl, eqx_rf _ _⟩) dX8_count_84
  by_cases c_1_4 : w = 4
  · skip
    refine vv_tabIn (tgt := 85) (off := 84) X (by omega) dX8_count_1 (by omega) (by omega) (by rw [c_1_4]; rfl) (by decide) ?_
    refine vv_aload_n X 0 rfl rfl dX8_count_85 ?_
    refine vv_callVI (As := []) (st := []) (Nf := 9) X 0 (c_X8_meanIsEnvelope l D cA had M (by assumption)) gX8_count_X8_meanIsEnvelope rfl (by decide +kernel) ⟨by decide, by decide⟩ (Nat.le_of_ble_eq_true rfl) ⟨by decide, by decide⟩ rfl (by decide) sh_90 rfl rfl dX8_count_86 (fun z86 Mc86 q_86 => ?_)
    refine vv_if_eq (tgt := 96) X (by obtain ⟨⟨lo, hi, k1, k2⟩, k3⟩ := q_86; rw [k2]; split <;> omega) dX8_count_89 (by decide) (fun c_89 => ?_) (fun c_89 => ?_)
    · skip
      obtain ⟨⟨lo, hi, k1, k2⟩, k3⟩ := q_86
      refine vv_iconst (n := 0) X dX8_count_96 ?_
      exact vv_iret X hm (⟨⟨fun q => by first | (exfalso; omega) | rfl, fun q => by first | (exfalso; omega) | rfl, fun q => by first | (exfalso; omega) | rfl, fun q => by first | (exfalso; omega) | rfl, fun _ => ⟨lo, hi, k1, by rw [k2] at c_89; rw [← k2] at c_89; rw [← k2]; split at k2 <;> omega⟩, fun q => by first | (exfalso; omega) | rfl⟩, fun q => by first | (exfalso; omega) | rfl, fun q => by first | (exfalso; omega) | rfl, k3⟩) dX8_count_97
    · skip
      obtain ⟨⟨lo, hi, k1, k2⟩, k3⟩ := q_86
      refine vv_iconst (n := 1) X dX8_count_92 ?_
      refine vv_goto (tgt := 97) X (by decide) dX8_count_93 ?_
      exact vv_iret X hm (⟨⟨fun q => by first | (exfalso; omega) | rfl, fun q => by first | (exfalso; omega) | rfl, fun q => by first | (exfalso; omega) | rfl, fun q => by first | (exfalso; omega) | rfl, fun _ => ⟨lo, hi, k1, by rw [k2] at c_89; rw [← k2] at c_89; rw [← k2]; split at k2 <;> omega⟩, fun q => by first | (exfalso; omega) | rfl⟩, fun q => by first | (exfalso; omega) | rfl, fun q => by first | (exfalso; omega) | rfl, k3⟩) dX8_count_97
  by_cases c_1_5 : w = 5
  · skip
    refine vv_tabIn (tgt := 98) (off := 97) X (by omega) dX8_count_1 (by omega) (by omega) (by rw [c_1_5]; rfl) (by decide) ?_
    refine vv_aload_n X 0 rfl rfl dX8_count_98 ?_
    refine vv_getr (Nf := 9) (ref := (TX8 4).1) X (by decide) sh_90 rfl 4 (by decide) u_X8_count_8 k_X8_count_34 rfl rfl dX8_count_99 ?_
    refine vv_geti (Nf := 6) (ref := (TX4 2).1) (z := (M 95 2)) X (by decide) sh_95 rfl 2 (by decide) u_X8_count_4 k_X8_count_174 rfl rfl (rfl) dX8_count_102 ?_
    exact vv_iret X hm (⟨⟨fun q => by first | (exfalso; omega) | rfl, fun q => by first | (exfalso; omega) | rfl, fun q => by first | (exfalso; omega) | rfl, fun q => by first | (exfalso; omega) | exact e_z81, fun q => by first | (exfalso; omega) | rfl, fun q => by first | (exfalso; omega) | rfl⟩, fun q => by first | (exfalso; omega) | rfl, fun q => by first | (exfalso; omega) | rfl, eqx_rf _ _⟩) dX8_count_105
  have c_1_6 : w = 6 := by omega
  · skip
    refine vv_tabIn (tgt := 106) (off := 105) X (by omega) dX8_count_1 (by omega) (by omega) (by rw [c_1_6]; rfl) (by decide) ?_
    refine vv_aload_n X 0 rfl rfl dX8_count_106 ?_
    refine vv_getr (Nf := 9) (ref := (TX8 1).1) X (by decide) sh_90 rfl 1 (by decide) u_X8_count_8 k_X8_count_19 rfl rfl dX8_count_107 ?_
    refine vv_geti (Nf := 3) (ref := (TX2 2).1) (z := (M 91 2)) X (by decide) sh_91 rfl 2 (by decide) u_X8_count_2 k_X8_count_177 rfl rfl (rfl) dX8_count_110 ?_
    exact vv_iret X hm (⟨⟨fun q => by first | (exfalso; omega) | rfl, fun q => by first | (exfalso; omega) | rfl, fun q => by first | (exfalso; omega) | rfl, fun q => by first | (exfalso; omega) | exact e_z81, fun q => by first | (exfalso; omega) | rfl, fun q => by first | (exfalso; omega) | rfl⟩, fun q => by first | (exfalso; omega) | rfl, fun q => by first | (exfalso; omega) | rfl, eqx_rf _ _⟩) dX8_count_113
theorem u_X8_envelope_1 : ∀ w ∈ u_ws RX1 TX1 2, w ∈ wsX8_envelope := by decide +kernel
theorem u_X8_envelope_8 : ∀ w ∈ u_ws RX8 TX8 9, w ∈ wsX8_envelope := by decide +kernel
theorem k_X8_envelope_48 : Cond.fieldLink yX8_envelope.cls 48 (TX8 6).1 (TX8 6).2.1 (TX8 6).2.2.1 ∈ wsX8_envelope := by decide +kernel
theorem k_X8_envelope_55 : Cond.fieldLink yX8_envelope.cls 55 (TX8 7).1 (TX8 7).2.1 (TX8 7).2.2.1 ∈ wsX8_envelope := by decide +kernel
theorem k_X8_envelope_146 : Cond.fieldLink yX8_envelope.cls 146 (TX1 0).1 (TX1 0).2.1 (TX1 0).2.2.1 ∈ wsX8_envelope := by decide +kernel
theorem k_X8_envelope_151 : Cond.fieldLink yX8_envelope.cls 151 (TX1 1).1 (TX1 1).2.1 (TX1 1).2.2.1 ∈ wsX8_envelope := by decide +kernel
set_option maxRecDepth 100000 in
set_option maxHeartbeats 4000000 in
theorem c_X8_envelope (l : Launch) (D : va_G) {ad : Nat → Nat} (cA : Nat → ClassId) (had : adok ad) (M : Mem) (x w : Int) (hx : -2147483648 ≤ x ∧ x ≤ 2147483647) (hw : -2147483648 ≤ w ∧ w ≤ 2147483647) (hw : WF (vC M 0)) : CtI l yX8_envelope wsX8_envelope 4 91 D ad cA [.ref (ad 90), .int (zI x), .int (zI w)] M (fun z M1 => qEnv x w (vC M 0) z ∧ eqx M M1 [100, 101, 102, 103, 104]) := by
  refine CtI.of (cc := cX8_envelope) (maxL := 3) (ret := (some .int)) had (by decide) rfl (Nat.le_of_ble_eq_true rfl) ?_
  intro p e s m args below meth c X hm
  show VV p l e { frames := 4, cells := 0, slots := 0, locals := 91 } s m args below meth c 3 D ad cA (Afr ad s.heap.size) 0 0 (QI below args s D ad cA (fun z M1 => qEnv x w (vC M 0) z ∧ eqx M M1 [100, 101, 102, 103, 104])) M 0 [(0, .ref (ad 90)), (1, .int (zI x)), (2, .int (zI w))] []
  have hsm : 1 ≤ M 6 2 ∧ M 6 2 ≤ 6 := WFs_pos hw.2.2
  have hwb : ∀ k : Nat, (k : Int) < M 6 2 → (1 ≤ M 7 k ∧ M 7 k ≤ 999) ∧ (0 ≤ M 8 k ∧ M 8 k ≤ 100) := fun k hk => WFs_b hw.2.2 hk
  have hW : cWR M := hw.2.1
  have hn5 : 0 ≤ M 1 4 ∧ M 1 4 ≤ 5 := by
    have q1 := hW.2.1
    have q2 := hW.1
    omega
  have hp9 : 1 ≤ M 0 2 ∧ M 0 2 ≤ 99 := hw.1
  refine vv_iload_n X 1 rfl rfl dX8_envelope_0 ?_
  refine vv_callSI (As := [.int (zI x)]) (st := []) X 1 (c_X8_isPosterior l D cA had M x (by omega)) gX8_envelope_X8_isPosterior rfl (by decide +kernel) ⟨by decide, by decide⟩ (Nat.le_of_ble_eq_true rfl) ⟨by decide, by decide⟩ rfl rfl dX8_envelope_1 (fun z1 Mc1 q_1 => ?_)
  obtain ⟨e_z1, g_z1⟩ := q_1
  have g_z1 := g_z1.symm
  subst g_z1
  refine vv_if_eq (tgt := 14) X (by rw [e_z1]; split <;> omega) dX8_envelope_4 (by decide) (fun c_4 => ?_) (fun c_4 => ?_)
  · skip
    have hin : ¬ (0 ≤ x ∧ x ≤ 100) := fun q => by rw [if_pos q] at e_z1; omega
    refine vv_bipush (n := (-2)) X (by decide) dX8_envelope_14 ?_
    exact vv_iret X hm (⟨⟨fun _ => rfl, fun q => by first | exact absurd q.1 hin | exact absurd q.2 hin2⟩, eqx_rf _ _⟩) dX8_envelope_16
  · skip
    have hin : 0 ≤ x ∧ x ≤ 100 := Classical.byContradiction fun q => by rw [if_neg q] at e_z1; omega
    refine vv_iload_n X 2 rfl rfl dX8_envelope_7 ?_
    refine vv_callSI (As := [.int (zI w)]) (st := []) X 1 (c_X8_isHalfOfFraction l D cA had M w (by omega)) gX8_envelope_X8_isHalfOfFraction rfl (by decide +kernel) ⟨by decide, by decide⟩ (Nat.le_of_ble_eq_true rfl) ⟨by decide, by decide⟩ rfl rfl dX8_envelope_8 (fun z8 Mc8 q_8 => ?_)
    obtain ⟨e_z8, g_z8⟩ := q_8
    have g_z8 := g_z8.symm
    subst g_z8
    refine vv_if_ne (tgt := 17) X (by rw [e_z8]; split <;> omega) dX8_envelope_11 (by decide) (fun c_11 => ?_) (fun c_11 => ?_)
    · skip
      have hin2 : w = 0 ∨ w = 1 := Classical.byContradiction fun q => by rw [if_neg q] at e_z8; omega
      refine vv_aload_n X 0 rfl rfl dX8_envelope_17 ?_
      refine vv_iload_n X 1 rfl rfl dX8_envelope_18 ?_
      refine vv_callVV (As := [.int (zI x)]) (st := []) (Nf := 9) X 1 (c_X8_aimAt l D cA had M x (by omega) (by assumption)) gX8_envelope_X8_aimAt rfl (by decide +kernel) ⟨by decide, by decide⟩ (Nat.le_of_ble_eq_true rfl) ⟨by decide, by decide⟩ rfl (by decide) sh_90 rfl rfl dX8_envelope_19 (fun Mc19 q_19 => ?_)
      obtain ⟨E19, V19, B19, L19, U19⟩ := q_19
      have e_Mc19_0 : Mc19 0 = M 0 := (E19 0 (by decide)).trans (show M 0 = M 0 from rfl)
      have e_Mc19_1 : Mc19 1 = M 1 := (E19 1 (by decide)).trans (show M 1 = M 1 from rfl)
      have e_Mc19_2 : Mc19 2 = M 2 := (E19 2 (by decide)).trans (show M 2 = M 2 from rfl)
      have e_Mc19_3 : Mc19 3 = M 3 := (E19 3 (by decide)).trans (show M 3 = M 3 from rfl)
      have e_Mc19_4 : Mc19 4 = M 4 := (E19 4 (by decide)).trans (show M 4 = M 4 from rfl)
      have e_Mc19_5 : Mc19 5 = M 5 := (E19 5 (by decide)).trans (show M 5 = M 5 from rfl)
      have e_Mc19_6 : Mc19 6 = M 6 := (E19 6 (by decide)).trans (show M 6 = M 6 from rfl)
      have e_Mc19_7 : Mc19 7 = M 7 := (E19 7 (by decide)).trans (show M 7 = M 7 from rfl)
      have e_Mc19_8 : Mc19 8 = M 8 := (E19 8 (by decide)).trans (show M 8 = M 8 from rfl)
      have e_Mc19_99 : Mc19 99 = M 99 := (E19 99 (by decide)).trans (show M 99 = M 99 from rfl)
      have e_Mc19_103 : Mc19 103 = M 103 := (E19 103 (by decide)).trans (show M 103 = M 103 from rfl)
      have e_Mc19_104 : Mc19 104 = M 104 := (E19 104 (by decide)).trans (show M 104 = M 104 from rfl)
      obtain ⟨cr, cw, cp, cv, cN, cD, cx⟩ := cu_f (M := M) (by first | exact hW | exact hW8) hin V19 B19 L19 U19
      have fe := fr_env (v := vA (vC M 0)) (lo := Mc19 100 3) (hi := Mc19 100 4) B19.1
      refine vv_aload_n X 0 rfl rfl dX8_envelope_22 ?_
      refine vv_getr (Nf := 9) (ref := (TX8 6).1) X (by decide) sh_90 rfl 6 (by decide) u_X8_envelope_8 k_X8_envelope_48 rfl rfl dX8_envelope_23 ?_
      refine vv_aload_n X 0 rfl rfl dX8_envelope_26 ?_
      refine vv_getr (Nf := 9) (ref := (TX8 7).1) X (by decide) sh_90 rfl 7 (by decide) u_X8_envelope_8 k_X8_envelope_55 rfl rfl dX8_envelope_27 ?_
      refine vv_callVV (As := [.ref (ad 103)]) (st := []) (Nf := 7) X 1 (c_X0_tellEnvelope_103 l D cA had Mc19 (cr.1) (cr.2) (cw.1) (cw.2) (cp) (cv)) gX8_envelope_X0_tellEnvelope rfl (by decide +kernel) ⟨by decide, by decide⟩ (Nat.le_of_ble_eq_true rfl) ⟨by decide, by decide⟩ rfl (by decide) sh_100 rfl rfl dX8_envelope_30 (fun Mc30 q_30 => ?_)
      have hE : eqx M Mc30 [100, 101, 102, 103, 104] := by
        rw [q_30]
        exact eqx_up _ _ (eqx_up _ _ (eqx_mono E19 (by decide)) (by decide)) (by decide)
      have g1 : Mc30 103 0 = frA (sN (vA (vC M 0)) x (Mc19 100 3) (Mc19 100 4)) (sD (Mc19 100 3) (Mc19 100 4)) := by rw [q_30, up2_m _ _ _ (by decide), up2_s, cN, cD]; exact fe.1
      have g2 : Mc30 103 1 = frB (sN (vA (vC M 0)) x (Mc19 100 3) (Mc19 100 4)) (sD (Mc19 100 3) (Mc19 100 4)) := by rw [q_30, up2_s, cN, cD]; exact fe.2
      refine vv_iload_n X 2 rfl rfl dX8_envelope_33 ?_
      refine vv_if_ne (tgt := 50) X (by omega) dX8_envelope_34 (by decide) (fun c_34 => ?_) (fun c_34 => ?_)
      · skip
        refine vv_aload_n X 0 rfl rfl dX8_envelope_50 ?_
        refine vv_getr (Nf := 9) (ref := (TX8 7).1) X (by decide) sh_90 rfl 7 (by decide) u_X8_envelope_8 k_X8_envelope_55 rfl rfl dX8_envelope_51 ?_
        refine vv_geti (Nf := 2) (ref := (TX1 1).1) (z := (Mc30 103 1)) X (by decide) sh_103 rfl 1 (by decide) u_X8_envelope_1 k_X8_envelope_151 rfl rfl (rfl) dX8_envelope_54 ?_
        exact vv_iret X hm (⟨⟨fun q => absurd ⟨hin, hin2⟩ q, fun _ => ⟨Mc19 100 3, Mc19 100 4, B19, fun q => by first | (exfalso; omega) | rw [g1], fun q => by first | (exfalso; omega) | exact g2⟩⟩, hE⟩) dX8_envelope_57
      · skip
        refine vv_aload_n X 0 rfl rfl dX8_envelope_37 ?_
        refine vv_getr (Nf := 9) (ref := (TX8 7).1) X (by decide) sh_90 rfl 7 (by decide) u_X8_envelope_8 k_X8_envelope_55 rfl rfl dX8_envelope_38 ?_
        refine vv_geti (Nf := 2) (ref := (TX1 0).1) (z := (Mc30 103 0)) X (by decide) sh_103 rfl 0 (by decide) u_X8_envelope_1 k_X8_envelope_146 rfl rfl (rfl) dX8_envelope_41 ?_
        refine vv_ldc (n := 10000000) (v := 10000000) X (by decide +kernel) (by decide) dX8_envelope_44 ?_
        refine vv_iadd X dX8_envelope_46 ?_
        refine vv_goto (tgt := 57) X (by decide) dX8_envelope_47 ?_
        exact vv_iret X hm (⟨⟨fun q => absurd ⟨hin, hin2⟩ q, fun _ => ⟨Mc19 100 3, Mc19 100 4, B19, fun q => by first | (exfalso; omega) | rw [g1], fun q => by first | (exfalso; omega) | exact g2⟩⟩, hE⟩) dX8_envelope_57
    · skip
      have hin2 : ¬ (w = 0 ∨ w = 1) := fun q => by rw [if_pos q] at e_z8; omega
      refine vv_bipush (n := (-2)) X (by decide) dX8_envelope_14 ?_
      exact vv_iret X hm (⟨⟨fun _ => rfl, fun q => by first | exact absurd q.1 hin | exact absurd q.2 hin2⟩, eqx_rf _ _⟩) dX8_envelope_16
theorem u_X8_best_0 : ∀ w ∈ u_ws RX0 TX0 7, w ∈ wsX8_best := by decide +kernel
theorem u_X8_best_8 : ∀ w ∈ u_ws RX8 TX8 9, w ∈ wsX8_best := by decide +kernel
theorem k_X8_best_48 : Cond.fieldLink yX8_best.cls 48 (TX8 6).1 (TX8 6).2.1 (TX8 6).2.2.1 ∈ wsX8_best := by decide +kernel
theorem k_X8_best_187 : Cond.fieldLink yX8_best.cls 187 (TX0 3).1 (TX0 3).2.1 (TX0 3).2.2.1 ∈ wsX8_best := by decide +kernel
theorem k_X8_best_190 : Cond.fieldLink yX8_best.cls 190 (TX0 4).1 (TX0 4).2.1 (TX0 4).2.2.1 ∈ wsX8_best := by decide +kernel
theorem k_X8_best_193 : Cond.fieldLink yX8_best.cls 193 (TX0 5).1 (TX0 5).2.1 (TX0 5).2.2.1 ∈ wsX8_best := by decide +kernel
theorem k_X8_best_196 : Cond.fieldLink yX8_best.cls 196 (TX0 6).1 (TX0 6).2.1 (TX0 6).2.2.1 ∈ wsX8_best := by decide +kernel
set_option maxRecDepth 100000 in
set_option maxHeartbeats 4000000 in
theorem c_X8_best (l : Launch) (D : va_G) {ad : Nat → Nat} (cA : Nat → ClassId) (had : adok ad) (M : Mem) (x w : Int) (hx : -2147483648 ≤ x ∧ x ≤ 2147483647) (hw : -2147483648 ≤ w ∧ w ≤ 2147483647) (hw : WF (vC M 0)) : CtI l yX8_best wsX8_best 4 91 D ad cA [.ref (ad 90), .int (zI x), .int (zI w)] M (fun z M1 => qBst x w (vC M 0) z ∧ eqx M M1 [100, 101, 102, 103, 104]) := by
  refine CtI.of (cc := cX8_best) (maxL := 3) (ret := (some .int)) had (by decide) rfl (Nat.le_of_ble_eq_true rfl) ?_
  intro p e s m args below meth c X hm
  show VV p l e { frames := 4, cells := 0, slots := 0, locals := 91 } s m args below meth c 3 D ad cA (Afr ad s.heap.size) 0 0 (QI below args s D ad cA (fun z M1 => qBst x w (vC M 0) z ∧ eqx M M1 [100, 101, 102, 103, 104])) M 0 [(0, .ref (ad 90)), (1, .int (zI x)), (2, .int (zI w))] []
  have hsm : 1 ≤ M 6 2 ∧ M 6 2 ≤ 6 := WFs_pos hw.2.2
  have hwb : ∀ k : Nat, (k : Int) < M 6 2 → (1 ≤ M 7 k ∧ M 7 k ≤ 999) ∧ (0 ≤ M 8 k ∧ M 8 k ≤ 100) := fun k hk => WFs_b hw.2.2 hk
  have hW : cWR M := hw.2.1
  have hn5 : 0 ≤ M 1 4 ∧ M 1 4 ≤ 5 := by
    have q1 := hW.2.1
    have q2 := hW.1
    omega
  have hp9 : 1 ≤ M 0 2 ∧ M 0 2 ≤ 99 := hw.1
  refine vv_iload_n X 1 rfl rfl dX8_best_0 ?_
  refine vv_callSI (As := [.int (zI x)]) (st := []) X 1 (c_X8_isPosterior l D cA had M x (by omega)) gX8_best_X8_isPosterior rfl (by decide +kernel) ⟨by decide, by decide⟩ (Nat.le_of_ble_eq_true rfl) ⟨by decide, by decide⟩ rfl rfl dX8_best_1 (fun z1 Mc1 q_1 => ?_)
  obtain ⟨e_z1, g_z1⟩ := q_1
  have g_z1 := g_z1.symm
  subst g_z1
  refine vv_if_ne (tgt := 10) X (by rw [e_z1]; split <;> omega) dX8_best_4 (by decide) (fun c_4 => ?_) (fun c_4 => ?_)
  · skip
    have hin : 0 ≤ x ∧ x ≤ 100 := Classical.byContradiction fun q => by rw [if_neg q] at e_z1; omega
    refine vv_aload_n X 0 rfl rfl dX8_best_10 ?_
    refine vv_iload_n X 1 rfl rfl dX8_best_11 ?_
    refine vv_callVV (As := [.int (zI x)]) (st := []) (Nf := 9) X 1 (c_X8_aimAt l D cA had M x (by omega) (by assumption)) gX8_best_X8_aimAt rfl (by decide +kernel) ⟨by decide, by decide⟩ (Nat.le_of_ble_eq_true rfl) ⟨by decide, by decide⟩ rfl (by decide) sh_90 rfl rfl dX8_best_12 (fun Mc12 q_12 => ?_)
    obtain ⟨E12, V12, B12, L12, U12⟩ := q_12
    have e_Mc12_0 : Mc12 0 = M 0 := (E12 0 (by decide)).trans (show M 0 = M 0 from rfl)
    have e_Mc12_1 : Mc12 1 = M 1 := (E12 1 (by decide)).trans (show M 1 = M 1 from rfl)
    have e_Mc12_2 : Mc12 2 = M 2 := (E12 2 (by decide)).trans (show M 2 = M 2 from rfl)
    have e_Mc12_3 : Mc12 3 = M 3 := (E12 3 (by decide)).trans (show M 3 = M 3 from rfl)
    have e_Mc12_4 : Mc12 4 = M 4 := (E12 4 (by decide)).trans (show M 4 = M 4 from rfl)
    have e_Mc12_5 : Mc12 5 = M 5 := (E12 5 (by decide)).trans (show M 5 = M 5 from rfl)
    have e_Mc12_6 : Mc12 6 = M 6 := (E12 6 (by decide)).trans (show M 6 = M 6 from rfl)
    have e_Mc12_7 : Mc12 7 = M 7 := (E12 7 (by decide)).trans (show M 7 = M 7 from rfl)
    have e_Mc12_8 : Mc12 8 = M 8 := (E12 8 (by decide)).trans (show M 8 = M 8 from rfl)
    have e_Mc12_99 : Mc12 99 = M 99 := (E12 99 (by decide)).trans (show M 99 = M 99 from rfl)
    have e_Mc12_103 : Mc12 103 = M 103 := (E12 103 (by decide)).trans (show M 103 = M 103 from rfl)
    have e_Mc12_104 : Mc12 104 = M 104 := (E12 104 (by decide)).trans (show M 104 = M 104 from rfl)
    refine vv_iload_n X 2 rfl rfl dX8_best_15 ?_
    by_cases c_16 : w < 0 ∨ 3 < w
    · skip
      refine vv_tabOut (tgt := 80) X (by omega) dX8_best_16 c_16 (by decide) ?_
      refine vv_bipush (n := (-2)) X (by decide) dX8_best_80 ?_
      exact vv_iret X hm (⟨⟨fun q => by first | rfl | exact absurd ⟨hin, by omega⟩ q, fun q => by first | (exfalso; omega) | exact ⟨Mc12 100 3, Mc12 100 4, B12, fun q => by first | (exfalso; omega) | rfl, fun q => by first | (exfalso; omega) | rfl, fun q => by first | (exfalso; omega) | exact L12, fun q => by first | (exfalso; omega) | exact U12⟩⟩, eqx_mono E12 (by decide)⟩) dX8_best_82
    by_cases c_16_0 : w = 0
    · skip
      refine vv_tabIn (tgt := 48) (off := 32) X (by omega) dX8_best_16 (by omega) (by omega) (by rw [c_16_0]; rfl) (by decide) ?_
      refine vv_aload_n X 0 rfl rfl dX8_best_48 ?_
      refine vv_getr (Nf := 9) (ref := (TX8 6).1) X (by decide) sh_90 rfl 6 (by decide) u_X8_best_8 k_X8_best_48 rfl rfl dX8_best_49 ?_
      refine vv_geti (Nf := 7) (ref := (TX0 3).1) (z := (Mc12 100 3)) X (by decide) sh_100 rfl 3 (by decide) u_X8_best_0 k_X8_best_187 rfl rfl (rfl) dX8_best_52 ?_
      exact vv_iret X hm (⟨⟨fun q => by first | rfl | exact absurd ⟨hin, by omega⟩ q, fun q => by first | (exfalso; omega) | exact ⟨Mc12 100 3, Mc12 100 4, B12, fun q => by first | (exfalso; omega) | rfl, fun q => by first | (exfalso; omega) | rfl, fun q => by first | (exfalso; omega) | exact L12, fun q => by first | (exfalso; omega) | exact U12⟩⟩, eqx_mono E12 (by decide)⟩) dX8_best_55
    by_cases c_16_1 : w = 1
    · skip
      refine vv_tabIn (tgt := 56) (off := 40) X (by omega) dX8_best_16 (by omega) (by omega) (by rw [c_16_1]; rfl) (by decide) ?_
      refine vv_aload_n X 0 rfl rfl dX8_best_56 ?_
      refine vv_getr (Nf := 9) (ref := (TX8 6).1) X (by decide) sh_90 rfl 6 (by decide) u_X8_best_8 k_X8_best_48 rfl rfl dX8_best_57 ?_
      refine vv_geti (Nf := 7) (ref := (TX0 4).1) (z := (Mc12 100 4)) X (by decide) sh_100 rfl 4 (by decide) u_X8_best_0 k_X8_best_190 rfl rfl (rfl) dX8_best_60 ?_
      exact vv_iret X hm (⟨⟨fun q => by first | rfl | exact absurd ⟨hin, by omega⟩ q, fun q => by first | (exfalso; omega) | exact ⟨Mc12 100 3, Mc12 100 4, B12, fun q => by first | (exfalso; omega) | rfl, fun q => by first | (exfalso; omega) | rfl, fun q => by first | (exfalso; omega) | exact L12, fun q => by first | (exfalso; omega) | exact U12⟩⟩, eqx_mono E12 (by decide)⟩) dX8_best_63
    by_cases c_16_2 : w = 2
    · skip
      refine vv_tabIn (tgt := 64) (off := 48) X (by omega) dX8_best_16 (by omega) (by omega) (by rw [c_16_2]; rfl) (by decide) ?_
      refine vv_aload_n X 0 rfl rfl dX8_best_64 ?_
      refine vv_getr (Nf := 9) (ref := (TX8 6).1) X (by decide) sh_90 rfl 6 (by decide) u_X8_best_8 k_X8_best_48 rfl rfl dX8_best_65 ?_
      refine vv_geti (Nf := 7) (ref := (TX0 5).1) (z := (Mc12 100 5)) X (by decide) sh_100 rfl 5 (by decide) u_X8_best_0 k_X8_best_193 rfl rfl (rfl) dX8_best_68 ?_
      exact vv_iret X hm (⟨⟨fun q => by first | rfl | exact absurd ⟨hin, by omega⟩ q, fun q => by first | (exfalso; omega) | exact ⟨Mc12 100 3, Mc12 100 4, B12, fun q => by first | (exfalso; omega) | rfl, fun q => by first | (exfalso; omega) | rfl, fun q => by first | (exfalso; omega) | exact L12, fun q => by first | (exfalso; omega) | exact U12⟩⟩, eqx_mono E12 (by decide)⟩) dX8_best_71
    have c_16_3 : w = 3 := by omega
    · skip
      refine vv_tabIn (tgt := 72) (off := 56) X (by omega) dX8_best_16 (by omega) (by omega) (by rw [c_16_3]; rfl) (by decide) ?_
      refine vv_aload_n X 0 rfl rfl dX8_best_72 ?_
      refine vv_getr (Nf := 9) (ref := (TX8 6).1) X (by decide) sh_90 rfl 6 (by decide) u_X8_best_8 k_X8_best_48 rfl rfl dX8_best_73 ?_
      refine vv_geti (Nf := 7) (ref := (TX0 6).1) (z := (Mc12 100 6)) X (by decide) sh_100 rfl 6 (by decide) u_X8_best_0 k_X8_best_196 rfl rfl (rfl) dX8_best_76 ?_
      exact vv_iret X hm (⟨⟨fun q => by first | rfl | exact absurd ⟨hin, by omega⟩ q, fun q => by first | (exfalso; omega) | exact ⟨Mc12 100 3, Mc12 100 4, B12, fun q => by first | (exfalso; omega) | rfl, fun q => by first | (exfalso; omega) | rfl, fun q => by first | (exfalso; omega) | exact L12, fun q => by first | (exfalso; omega) | exact U12⟩⟩, eqx_mono E12 (by decide)⟩) dX8_best_79
  · skip
    have hin : ¬ (0 ≤ x ∧ x ≤ 100) := fun q => by rw [if_pos q] at e_z1; omega
    refine vv_bipush (n := (-2)) X (by decide) dX8_best_7 ?_
    exact vv_iret X hm (⟨⟨fun _ => rfl, fun q => absurd q.1 hin⟩, eqx_rf _ _⟩) dX8_best_9
