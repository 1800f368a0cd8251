theorem u_X8_prior_8 : ∀ w ∈ u_ws RX8 TX8 9, w ∈ wsX8_prior := by decide +kernel
theorem k_X8_prior_10 : Cond.fieldLink yX8_prior.cls 10 (TX8 0).1 (TX8 0).2.1 (TX8 0).2.2.1 ∈ wsX8_prior := by decide +kernel
theorem k_X8_prior_19 : Cond.fieldLink yX8_prior.cls 19 (TX8 1).1 (TX8 1).2.1 (TX8 1).2.2.1 ∈ wsX8_prior := by decide +kernel
set_option maxRecDepth 100000 in
set_option maxHeartbeats 4000000 in
theorem c_X8_prior (l : Launch) (D : va_G) {ad : Nat → Nat} (cA : Nat → ClassId) (had : adok ad) (M : Mem) (x : Int) (hx : -2147483648 ≤ x ∧ x ≤ 2147483647) (hH : HI M) (hw : WF (vC M 0)) : CtI l yX8_prior wsX8_prior 4 103 D ad cA [.ref (ad 90), .int (zI x)] M (fun z M1 => cChg (opP x) (M 95 2) M z M1 ∧ M1 95 = M 95) := by
  refine CtI.of (cc := cX8_prior) (maxL := 2) (ret := (some .int)) had (by decide) rfl (Nat.le_of_ble_eq_true rfl) ?_
  intro p e s m args below meth c X hm
  show VV p l e { frames := 4, cells := 0, slots := 0, locals := 103 } s m args below meth c 2 D ad cA (Afr ad s.heap.size) 0 0 (QI below args s D ad cA (fun z M1 => cChg (opP x) (M 95 2) M z M1 ∧ M1 95 = M 95)) M 0 [(0, .ref (ad 90)), (1, .int (zI x))] []
  have hsm : 1 ≤ M 6 2 ∧ M 6 2 ≤ 6 := WFs_pos hw.2.2
  have hwb : ∀ k : Nat, (k : Int) < M 6 2 → (1 ≤ M 7 k ∧ M 7 k ≤ 999) ∧ (0 ≤ M 8 k ∧ M 8 k ≤ 100) := fun k hk => WFs_b hw.2.2 hk
  have hW : cWR M := hw.2.1
  have hn5 : 0 ≤ M 1 4 ∧ M 1 4 ≤ 5 := by
    have q1 := hW.2.1
    have q2 := hW.1
    omega
  have hp9 : 1 ≤ M 0 2 ∧ M 0 2 ≤ 99 := hw.1
  obtain ⟨d, hd⟩ : ∃ d : Nat, (d : Int) = M 91 1 + 3 := ⟨(M 91 1 + 3).toNat, by have := hH.1; omega⟩
  have hd10 : d < 10 := by have := hH.1; omega
  have hH1 := hH.1
  have hH2 := hH.2
  refine vv_aload_n X 0 rfl rfl dX8_prior_0 ?_
  refine vv_getr (Nf := 9) (ref := (TX8 1).1) X (by decide) sh_90 rfl 1 (by decide) u_X8_prior_8 k_X8_prior_19 rfl rfl dX8_prior_1 ?_
  refine vv_aload_n X 0 rfl rfl dX8_prior_4 ?_
  refine vv_getr (Nf := 9) (ref := (TX8 0).1) X (by decide) sh_90 rfl 0 (by decide) u_X8_prior_8 k_X8_prior_10 rfl rfl dX8_prior_5 ?_
  refine vv_callVV (As := [.ref (ad 0)]) (st := []) (Nf := 3) X 1 (c_X2_note l D cA had M d (hd10) (by omega) (by omega)) gX8_prior_X2_note rfl (by decide +kernel) ⟨by decide, by decide⟩ (Nat.le_of_ble_eq_true rfl) ⟨by decide, by decide⟩ rfl (by decide) sh_91 rfl rfl dX8_prior_8 (fun Ma qa => ?_)
  have ea : ∀ a, a < 9 → Ma a = M a := fun a ha => qa.1 a (by omega)
  have e91 : Ma 91 = M 91 := qa.1 91 (by omega)
  have e95 : Ma 95 = M 95 := qa.1 95 (by omega)
  have e0 : vC Ma 0 = vC M 0 := vC_eq (fun a _ h => ea a (by omega))
  have hwa : WF (vC Ma 0) := by rw [e0]; exact hw
  have ea0 := ea 0 (by decide)
  have ea1 := ea 1 (by decide)
  have ea6 := ea 6 (by decide)
  have hWa : cWR Ma := hwa.2.1
  have hna : 0 ≤ Ma 1 4 ∧ Ma 1 4 ≤ 5 := by rw [ea1]; exact hn5
  have hpa : 1 ≤ Ma 0 2 ∧ Ma 0 2 ≤ 99 := hwa.1
  refine vv_aload_n X 0 rfl rfl dX8_prior_11 ?_
  refine vv_aload_n X 0 rfl rfl dX8_prior_12 ?_
  refine vv_getr (Nf := 9) (ref := (TX8 0).1) X (by decide) sh_90 rfl 0 (by decide) u_X8_prior_8 k_X8_prior_10 rfl rfl dX8_prior_13 ?_
  refine vv_iload_n X 1 rfl rfl dX8_prior_16 ?_
  refine vv_callVI (As := [.int (zI x)]) (st := [.ref (ad 90)]) (Nf := 3) X 1 (c_X7_movePrior l D cA had Ma x (by omega)) gX8_prior_X7_movePrior rfl (by decide +kernel) ⟨by decide, by decide⟩ (Nat.le_of_ble_eq_true rfl) ⟨by decide, by decide⟩ rfl (by decide) sh_0 rfl rfl dX8_prior_17 (fun z17 Mb qb => ?_)
  obtain ⟨hO, hE⟩ := opP_of qb
  have hz := opP_z hwa hO
  have eb91 : Mb 91 = M 91 := (hE 91 (by decide)).trans e91
  refine vv_callVI (As := [.int (zI z17)]) (st := []) (Nf := 9) X 1 (c_X8_recorded l D cA had Mb z17 (by omega) (by rw [eb91]; exact hH1) (by rw [eb91]; exact hH2)) gX8_prior_X8_recorded rfl (by decide +kernel) ⟨by decide, by decide⟩ (Nat.le_of_ble_eq_true rfl) ⟨by decide, by decide⟩ rfl (by decide) sh_90 rfl rfl dX8_prior_20 (fun z20 Mr qr => ?_)
  exact vv_iret X hm (⟨chg_of (op := opP x) hH hd hn5.2 hsm.2 qa hO (fun a ha => hE a (by simp; omega)) (by rw [hE 95 (by decide), e95]) qr, (rec95 qr).trans ((hE 95 (by decide)).trans e95)⟩) dX8_prior_23
theorem u_X8_hire_7 : ∀ w ∈ u_ws RX7 TX7 3, w ∈ wsX8_hire := by decide +kernel
theorem u_X8_hire_8 : ∀ w ∈ u_ws RX8 TX8 9, w ∈ wsX8_hire := by decide +kernel
theorem k_X8_hire_10 : Cond.fieldLink yX8_hire.cls 10 (TX8 0).1 (TX8 0).2.1 (TX8 0).2.2.1 ∈ wsX8_hire := by decide +kernel
theorem k_X8_hire_19 : Cond.fieldLink yX8_hire.cls 19 (TX8 1).1 (TX8 1).2.1 (TX8 1).2.2.1 ∈ wsX8_hire := by decide +kernel
theorem k_X8_hire_73 : Cond.fieldLink yX8_hire.cls 73 (TX7 0).1 (TX7 0).2.1 (TX7 0).2.2.1 ∈ wsX8_hire := by decide +kernel
set_option maxRecDepth 100000 in
set_option maxHeartbeats 4000000 in
theorem c_X8_hire (l : Launch) (D : va_G) {ad : Nat → Nat} (cA : Nat → ClassId) (had : adok ad) (M : Mem) (a b u v : Int) (ha : -2147483648 ≤ a ∧ a ≤ 2147483647) (hb : -2147483648 ≤ b ∧ b ≤ 2147483647) (hu : -2147483648 ≤ u ∧ u ≤ 2147483647) (hv : -2147483648 ≤ v ∧ v ≤ 2147483647) (hH : HI M) (hw : WF (vC M 0)) : CtI l yX8_hire wsX8_hire 4 103 D ad cA [.ref (ad 90), .int (zI a), .int (zI b), .int (zI u), .int (zI v)] M (fun z M1 => cChg (opR a b u v) (M 95 2) M z M1 ∧ M1 95 = M 95) := by
  refine CtI.of (cc := cX8_hire) (maxL := 5) (ret := (some .int)) had (by decide) rfl (Nat.le_of_ble_eq_true rfl) ?_
  intro p e s m args below meth c X hm
  show VV p l e { frames := 4, cells := 0, slots := 0, locals := 103 } s m args below meth c 5 D ad cA (Afr ad s.heap.size) 0 0 (QI below args s D ad cA (fun z M1 => cChg (opR a b u v) (M 95 2) M z M1 ∧ M1 95 = M 95)) M 0 [(0, .ref (ad 90)), (1, .int (zI a)), (2, .int (zI b)), (3, .int (zI u)), (4, .int (zI v))] []
  have hsm : 1 ≤ M 6 2 ∧ M 6 2 ≤ 6 := WFs_pos hw.2.2
  have hwb : ∀ k : Nat, (k : Int) < M 6 2 → (1 ≤ M 7 k ∧ M 7 k ≤ 999) ∧ (0 ≤ M 8 k ∧ M 8 k ≤ 100) := fun k hk => WFs_b hw.2.2 hk
  have hW : cWR M := hw.2.1
  have hn5 : 0 ≤ M 1 4 ∧ M 1 4 ≤ 5 := by
    have q1 := hW.2.1
    have q2 := hW.1
    omega
  have hp9 : 1 ≤ M 0 2 ∧ M 0 2 ≤ 99 := hw.1
  obtain ⟨d, hd⟩ : ∃ d : Nat, (d : Int) = M 91 1 + 3 := ⟨(M 91 1 + 3).toNat, by have := hH.1; omega⟩
  have hd10 : d < 10 := by have := hH.1; omega
  have hH1 := hH.1
  have hH2 := hH.2
  refine vv_aload_n X 0 rfl rfl dX8_hire_0 ?_
  refine vv_getr (Nf := 9) (ref := (TX8 1).1) X (by decide) sh_90 rfl 1 (by decide) u_X8_hire_8 k_X8_hire_19 rfl rfl dX8_hire_1 ?_
  refine vv_aload_n X 0 rfl rfl dX8_hire_4 ?_
  refine vv_getr (Nf := 9) (ref := (TX8 0).1) X (by decide) sh_90 rfl 0 (by decide) u_X8_hire_8 k_X8_hire_10 rfl rfl dX8_hire_5 ?_
  refine vv_callVV (As := [.ref (ad 0)]) (st := []) (Nf := 3) X 1 (c_X2_note l D cA had M d (hd10) (by omega) (by omega)) gX8_hire_X2_note rfl (by decide +kernel) ⟨by decide, by decide⟩ (Nat.le_of_ble_eq_true rfl) ⟨by decide, by decide⟩ rfl (by decide) sh_91 rfl rfl dX8_hire_8 (fun Ma qa => ?_)
  have ea : ∀ a, a < 9 → Ma a = M a := fun a ha => qa.1 a (by omega)
  have e91 : Ma 91 = M 91 := qa.1 91 (by omega)
  have e95 : Ma 95 = M 95 := qa.1 95 (by omega)
  have e0 : vC Ma 0 = vC M 0 := vC_eq (fun a _ h => ea a (by omega))
  have hwa : WF (vC Ma 0) := by rw [e0]; exact hw
  have ea0 := ea 0 (by decide)
  have ea1 := ea 1 (by decide)
  have ea6 := ea 6 (by decide)
  have hWa : cWR Ma := hwa.2.1
  have hna : 0 ≤ Ma 1 4 ∧ Ma 1 4 ≤ 5 := by rw [ea1]; exact hn5
  have hpa : 1 ≤ Ma 0 2 ∧ Ma 0 2 ≤ 99 := hwa.1
  refine vv_aload_n X 0 rfl rfl dX8_hire_11 ?_
  refine vv_aload_n X 0 rfl rfl dX8_hire_12 ?_
  refine vv_getr (Nf := 9) (ref := (TX8 0).1) X (by decide) sh_90 rfl 0 (by decide) u_X8_hire_8 k_X8_hire_10 rfl rfl dX8_hire_13 ?_
  refine vv_getr (Nf := 3) (ref := (TX7 0).1) X (by decide) sh_0 rfl 0 (by decide) u_X8_hire_7 k_X8_hire_73 rfl rfl dX8_hire_16 ?_
  refine vv_iload_n X 1 rfl rfl dX8_hire_19 ?_
  refine vv_iload_n X 2 rfl rfl dX8_hire_20 ?_
  refine vv_iload_n X 3 rfl rfl dX8_hire_21 ?_
  refine vv_iload X 4 rfl dX8_hire_22 ?_
  refine vv_callVI (As := [.int (zI a), .int (zI b), .int (zI u), .int (zI v)]) (st := [.ref (ad 90)]) (Nf := 5) X 4 (c_X5_admit l D cA had Ma a b u v (by omega) (by omega) (by omega) (by omega) (by omega)) gX8_hire_X5_admit rfl (by decide +kernel) ⟨by decide, by decide⟩ (Nat.le_of_ble_eq_true rfl) ⟨by decide, by decide⟩ rfl (by decide) sh_1 rfl rfl dX8_hire_24 (fun z24 Mb qb => ?_)
  obtain ⟨hO, hE⟩ := opR_of qb hna
  have hz := opR_z hwa hO
  have eb91 : Mb 91 = M 91 := (hE 91 (by decide)).trans e91
  refine vv_callVI (As := [.int (zI z24)]) (st := []) (Nf := 9) X 1 (c_X8_recorded l D cA had Mb z24 (by omega) (by rw [eb91]; exact hH1) (by rw [eb91]; exact hH2)) gX8_hire_X8_recorded rfl (by decide +kernel) ⟨by decide, by decide⟩ (Nat.le_of_ble_eq_true rfl) ⟨by decide, by decide⟩ rfl (by decide) sh_90 rfl rfl dX8_hire_27 (fun z27 Mr qr => ?_)
  exact vv_iret X hm (⟨chg_of (op := opR a b u v) hH hd hn5.2 hsm.2 qa hO (fun a ha => hE a (by simp; omega)) (by rw [hE 95 (by decide), e95]) qr, (rec95 qr).trans ((hE 95 (by decide)).trans e95)⟩) dX8_hire_30
theorem u_X8_dismiss_7 : ∀ w ∈ u_ws RX7 TX7 3, w ∈ wsX8_dismiss := by decide +kernel
theorem u_X8_dismiss_8 : ∀ w ∈ u_ws RX8 TX8 9, w ∈ wsX8_dismiss := by decide +kernel
theorem k_X8_dismiss_10 : Cond.fieldLink yX8_dismiss.cls 10 (TX8 0).1 (TX8 0).2.1 (TX8 0).2.2.1 ∈ wsX8_dismiss := by decide +kernel
theorem k_X8_dismiss_19 : Cond.fieldLink yX8_dismiss.cls 19 (TX8 1).1 (TX8 1).2.1 (TX8 1).2.2.1 ∈ wsX8_dismiss := by decide +kernel
theorem k_X8_dismiss_73 : Cond.fieldLink yX8_dismiss.cls 73 (TX7 0).1 (TX7 0).2.1 (TX7 0).2.2.1 ∈ wsX8_dismiss := by decide +kernel
set_option maxRecDepth 100000 in
set_option maxHeartbeats 4000000 in
theorem c_X8_dismiss (l : Launch) (D : va_G) {ad : Nat → Nat} (cA : Nat → ClassId) (had : adok ad) (M : Mem) (x : Int) (hx : -2147483648 ≤ x ∧ x ≤ 2147483647) (hH : HI M) (hw : WF (vC M 0)) : CtI l yX8_dismiss wsX8_dismiss 4 103 D ad cA [.ref (ad 90), .int (zI x)] M (fun z M1 => cChg (opD x) (M 95 2) M z M1 ∧ M1 95 = M 95) := by
  refine CtI.of (cc := cX8_dismiss) (maxL := 2) (ret := (some .int)) had (by decide) rfl (Nat.le_of_ble_eq_true rfl) ?_
  intro p e s m args below meth c X hm
  show VV p l e { frames := 4, cells := 0, slots := 0, locals := 103 } s m args below meth c 2 D ad cA (Afr ad s.heap.size) 0 0 (QI below args s D ad cA (fun z M1 => cChg (opD x) (M 95 2) M z M1 ∧ M1 95 = M 95)) M 0 [(0, .ref (ad 90)), (1, .int (zI x))] []
  have hsm : 1 ≤ M 6 2 ∧ M 6 2 ≤ 6 := WFs_pos hw.2.2
  have hwb : ∀ k : Nat, (k : Int) < M 6 2 → (1 ≤ M 7 k ∧ M 7 k ≤ 999) ∧ (0 ≤ M 8 k ∧ M 8 k ≤ 100) := fun k hk => WFs_b hw.2.2 hk
  have hW : cWR M := hw.2.1
  have hn5 : 0 ≤ M 1 4 ∧ M 1 4 ≤ 5 := by
    have q1 := hW.2.1
    have q2 := hW.1
    omega
  have hp9 : 1 ≤ M 0 2 ∧ M 0 2 ≤ 99 := hw.1
  obtain ⟨d, hd⟩ : ∃ d : Nat, (d : Int) = M 91 1 + 3 := ⟨(M 91 1 + 3).toNat, by have := hH.1; omega⟩
  have hd10 : d < 10 := by have := hH.1; omega
  have hH1 := hH.1
  have hH2 := hH.2
  refine vv_aload_n X 0 rfl rfl dX8_dismiss_0 ?_
  refine vv_getr (Nf := 9) (ref := (TX8 1).1) X (by decide) sh_90 rfl 1 (by decide) u_X8_dismiss_8 k_X8_dismiss_19 rfl rfl dX8_dismiss_1 ?_
  refine vv_aload_n X 0 rfl rfl dX8_dismiss_4 ?_
  refine vv_getr (Nf := 9) (ref := (TX8 0).1) X (by decide) sh_90 rfl 0 (by decide) u_X8_dismiss_8 k_X8_dismiss_10 rfl rfl dX8_dismiss_5 ?_
  refine vv_callVV (As := [.ref (ad 0)]) (st := []) (Nf := 3) X 1 (c_X2_note l D cA had M d (hd10) (by omega) (by omega)) gX8_dismiss_X2_note rfl (by decide +kernel) ⟨by decide, by decide⟩ (Nat.le_of_ble_eq_true rfl) ⟨by decide, by decide⟩ rfl (by decide) sh_91 rfl rfl dX8_dismiss_8 (fun Ma qa => ?_)
  have ea : ∀ a, a < 9 → Ma a = M a := fun a ha => qa.1 a (by omega)
  have e91 : Ma 91 = M 91 := qa.1 91 (by omega)
  have e95 : Ma 95 = M 95 := qa.1 95 (by omega)
  have e0 : vC Ma 0 = vC M 0 := vC_eq (fun a _ h => ea a (by omega))
  have hwa : WF (vC Ma 0) := by rw [e0]; exact hw
  have ea0 := ea 0 (by decide)
  have ea1 := ea 1 (by decide)
  have ea6 := ea 6 (by decide)
  have hWa : cWR Ma := hwa.2.1
  have hna : 0 ≤ Ma 1 4 ∧ Ma 1 4 ≤ 5 := by rw [ea1]; exact hn5
  have hpa : 1 ≤ Ma 0 2 ∧ Ma 0 2 ≤ 99 := hwa.1
  refine vv_aload_n X 0 rfl rfl dX8_dismiss_11 ?_
  refine vv_aload_n X 0 rfl rfl dX8_dismiss_12 ?_
  refine vv_getr (Nf := 9) (ref := (TX8 0).1) X (by decide) sh_90 rfl 0 (by decide) u_X8_dismiss_8 k_X8_dismiss_10 rfl rfl dX8_dismiss_13 ?_
  refine vv_getr (Nf := 3) (ref := (TX7 0).1) X (by decide) sh_0 rfl 0 (by decide) u_X8_dismiss_7 k_X8_dismiss_73 rfl rfl dX8_dismiss_16 ?_
  refine vv_iload_n X 1 rfl rfl dX8_dismiss_19 ?_
  refine vv_callVI (As := [.int (zI x)]) (st := [.ref (ad 90)]) (Nf := 5) X 1 (c_X5_remove l D cA had Ma x (by omega) (by omega)) gX8_dismiss_X5_remove rfl (by decide +kernel) ⟨by decide, by decide⟩ (Nat.le_of_ble_eq_true rfl) ⟨by decide, by decide⟩ rfl (by decide) sh_1 rfl rfl dX8_dismiss_20 (fun z20 Mb qb => ?_)
  obtain ⟨hO, hE⟩ := opD_of qb
  have hz := opD_z hwa hO
  have eb91 : Mb 91 = M 91 := (hE 91 (by decide)).trans e91
  refine vv_callVI (As := [.int (zI z20)]) (st := []) (Nf := 9) X 1 (c_X8_recorded l D cA had Mb z20 (by omega) (by rw [eb91]; exact hH1) (by rw [eb91]; exact hH2)) gX8_dismiss_X8_recorded rfl (by decide +kernel) ⟨by decide, by decide⟩ (Nat.le_of_ble_eq_true rfl) ⟨by decide, by decide⟩ rfl (by decide) sh_90 rfl rfl dX8_dismiss_23 (fun z23 Mr qr => ?_)
  exact vv_iret X hm (⟨chg_of (op := opD x) hH hd hn5.2 hsm.2 qa hO (fun a ha => hE a (by simp; omega)) (by rw [hE 95 (by decide), e95]) qr, (rec95 qr).trans ((hE 95 (by decide)).trans e95)⟩) dX8_dismiss_26
theorem u_X8_refine_8 : ∀ w ∈ u_ws RX8 TX8 9, w ∈ wsX8_refine := by decide +kernel
theorem k_X8_refine_10 : Cond.fieldLink yX8_refine.cls 10 (TX8 0).1 (TX8 0).2.1 (TX8 0).2.2.1 ∈ wsX8_refine := by decide +kernel
theorem k_X8_refine_19 : Cond.fieldLink yX8_refine.cls 19 (TX8 1).1 (TX8 1).2.1 (TX8 1).2.2.1 ∈ wsX8_refine := by decide +kernel
set_option maxRecDepth 100000 in
set_option maxHeartbeats 4000000 in
theorem c_X8_refine (l : Launch) (D : va_G) {ad : Nat → Nat} (cA : Nat → ClassId) (had : adok ad) (M : Mem) (x a b : Int) (hx : -2147483648 ≤ x ∧ x ≤ 2147483647) (ha : -2147483648 ≤ a ∧ a ≤ 2147483647) (hb : -2147483648 ≤ b ∧ b ≤ 2147483647) (hH : HI M) (hw : WF (vC M 0)) : CtI l yX8_refine wsX8_refine 5 115 D ad cA [.ref (ad 90), .int (zI x), .int (zI a), .int (zI b)] M (fun z M1 => cChg (opSp x a b) (M 95 2) M z M1 ∧ M1 95 = M 95) := by
  refine CtI.of (cc := cX8_refine) (maxL := 4) (ret := (some .int)) had (by decide) rfl (Nat.le_of_ble_eq_true rfl) ?_
  intro p e s m args below meth c X hm
  show VV p l e { frames := 5, cells := 0, slots := 0, locals := 115 } s m args below meth c 4 D ad cA (Afr ad s.heap.size) 0 0 (QI below args s D ad cA (fun z M1 => cChg (opSp x a b) (M 95 2) M z M1 ∧ M1 95 = M 95)) M 0 [(0, .ref (ad 90)), (1, .int (zI x)), (2, .int (zI a)), (3, .int (zI b))] []
  have hsm : 1 ≤ M 6 2 ∧ M 6 2 ≤ 6 := WFs_pos hw.2.2
  have hwb : ∀ k : Nat, (k : Int) < M 6 2 → (1 ≤ M 7 k ∧ M 7 k ≤ 999) ∧ (0 ≤ M 8 k ∧ M 8 k ≤ 100) := fun k hk => WFs_b hw.2.2 hk
  have hW : cWR M := hw.2.1
  have hn5 : 0 ≤ M 1 4 ∧ M 1 4 ≤ 5 := by
    have q1 := hW.2.1
    have q2 := hW.1
    omega
  have hp9 : 1 ≤ M 0 2 ∧ M 0 2 ≤ 99 := hw.1
  obtain ⟨d, hd⟩ : ∃ d : Nat, (d : Int) = M 91 1 + 3 := ⟨(M 91 1 + 3).toNat, by have := hH.1; omega⟩
  have hd10 : d < 10 := by have := hH.1; omega
  have hH1 := hH.1
  have hH2 := hH.2
  refine vv_aload_n X 0 rfl rfl dX8_refine_0 ?_
  refine vv_getr (Nf := 9) (ref := (TX8 1).1) X (by decide) sh_90 rfl 1 (by decide) u_X8_refine_8 k_X8_refine_19 rfl rfl dX8_refine_1 ?_
  refine vv_aload_n X 0 rfl rfl dX8_refine_4 ?_
  refine vv_getr (Nf := 9) (ref := (TX8 0).1) X (by decide) sh_90 rfl 0 (by decide) u_X8_refine_8 k_X8_refine_10 rfl rfl dX8_refine_5 ?_
  refine vv_callVV (As := [.ref (ad 0)]) (st := []) (Nf := 3) X 1 (c_X2_note l D cA had M d (hd10) (by omega) (by omega)) gX8_refine_X2_note rfl (by decide +kernel) ⟨by decide, by decide⟩ (Nat.le_of_ble_eq_true rfl) ⟨by decide, by decide⟩ rfl (by decide) sh_91 rfl rfl dX8_refine_8 (fun Ma qa => ?_)
  have ea : ∀ a, a < 9 → Ma a = M a := fun a ha => qa.1 a (by omega)
  have e91 : Ma 91 = M 91 := qa.1 91 (by omega)
  have e95 : Ma 95 = M 95 := qa.1 95 (by omega)
  have e0 : vC Ma 0 = vC M 0 := vC_eq (fun a _ h => ea a (by omega))
  have hwa : WF (vC Ma 0) := by rw [e0]; exact hw
  have ea0 := ea 0 (by decide)
  have ea1 := ea 1 (by decide)
  have ea6 := ea 6 (by decide)
  have hWa : cWR Ma := hwa.2.1
  have hna : 0 ≤ Ma 1 4 ∧ Ma 1 4 ≤ 5 := by rw [ea1]; exact hn5
  have hpa : 1 ≤ Ma 0 2 ∧ Ma 0 2 ≤ 99 := hwa.1
  refine vv_aload_n X 0 rfl rfl dX8_refine_11 ?_
  refine vv_aload_n X 0 rfl rfl dX8_refine_12 ?_
  refine vv_iload_n X 1 rfl rfl dX8_refine_13 ?_
  refine vv_iload_n X 2 rfl rfl dX8_refine_14 ?_
  refine vv_iload_n X 3 rfl rfl dX8_refine_15 ?_
  refine vv_callVI (As := [.int (zI x), .int (zI a), .int (zI b)]) (st := [.ref (ad 90)]) (Nf := 9) X 3 (c_X8_splitPart l D cA had Ma x a b (by omega) (by omega) (by omega) (hwa.2.2)) gX8_refine_X8_splitPart rfl (by decide +kernel) ⟨by decide, by decide⟩ (Nat.le_of_ble_eq_true rfl) ⟨by decide, by decide⟩ rfl (by decide) sh_90 rfl rfl dX8_refine_16 (fun z16 Mb qb => ?_)
  obtain ⟨hO, hE⟩ := qb
  have hz := opSp_z hwa hO
  have eb91 : Mb 91 = M 91 := (hE 91 (by decide)).trans e91
  refine vv_callVI (As := [.int (zI z16)]) (st := []) (Nf := 9) X 1 (c_X8_recorded l D cA had Mb z16 (by omega) (by rw [eb91]; exact hH1) (by rw [eb91]; exact hH2)) gX8_refine_X8_recorded rfl (by decide +kernel) ⟨by decide, by decide⟩ (Nat.le_of_ble_eq_true rfl) ⟨by decide, by decide⟩ rfl (by decide) sh_90 rfl rfl dX8_refine_19 (fun z19 Mr qr => ?_)
  exact vv_iret X hm (⟨chg_of (op := opSp x a b) hH hd hn5.2 hsm.2 qa hO (fun a ha => hE a (by simp; omega)) (by rw [hE 95 (by decide), e95]) qr, (rec95 qr).trans ((hE 95 (by decide)).trans e95)⟩) dX8_refine_22
theorem u_X8_join_8 : ∀ w ∈ u_ws RX8 TX8 9, w ∈ wsX8_join := by decide +kernel
theorem k_X8_join_10 : Cond.fieldLink yX8_join.cls 10 (TX8 0).1 (TX8 0).2.1 (TX8 0).2.2.1 ∈ wsX8_join := by decide +kernel
theorem k_X8_join_19 : Cond.fieldLink yX8_join.cls 19 (TX8 1).1 (TX8 1).2.1 (TX8 1).2.2.1 ∈ wsX8_join := by decide +kernel
set_option maxRecDepth 100000 in
set_option maxHeartbeats 4000000 in
theorem c_X8_join (l : Launch) (D : va_G) {ad : Nat → Nat} (cA : Nat → ClassId) (had : adok ad) (M : Mem) (x : Int) (hx : -2147483648 ≤ x ∧ x ≤ 2147483647) (hH : HI M) (hw : WF (vC M 0)) : CtI l yX8_join wsX8_join 5 116 D ad cA [.ref (ad 90), .int (zI x)] M (fun z M1 => cChg (opJn x) (M 95 2) M z M1 ∧ M1 95 = M 95) := by
  refine CtI.of (cc := cX8_join) (maxL := 2) (ret := (some .int)) had (by decide) rfl (Nat.le_of_ble_eq_true rfl) ?_
  intro p e s m args below meth c X hm
  show VV p l e { frames := 5, cells := 0, slots := 0, locals := 116 } s m args below meth c 2 D ad cA (Afr ad s.heap.size) 0 0 (QI below args s D ad cA (fun z M1 => cChg (opJn x) (M 95 2) M z M1 ∧ M1 95 = M 95)) M 0 [(0, .ref (ad 90)), (1, .int (zI x))] []
  have hsm : 1 ≤ M 6 2 ∧ M 6 2 ≤ 6 := WFs_pos hw.2.2
  have hwb : ∀ k : Nat, (k : Int) < M 6 2 → (1 ≤ M 7 k ∧ M 7 k ≤ 999) ∧ (0 ≤ M 8 k ∧ M 8 k ≤ 100) := fun k hk => WFs_b hw.2.2 hk
  have hW : cWR M := hw.2.1
  have hn5 : 0 ≤ M 1 4 ∧ M 1 4 ≤ 5 := by
    have q1 := hW.2.1
    have q2 := hW.1
    omega
  have hp9 : 1 ≤ M 0 2 ∧ M 0 2 ≤ 99 := hw.1
  obtain ⟨d, hd⟩ : ∃ d : Nat, (d : Int) = M 91 1 + 3 := ⟨(M 91 1 + 3).toNat, by have := hH.1; omega⟩
  have hd10 : d < 10 := by have := hH.1; omega
  have hH1 := hH.1
  have hH2 := hH.2
  refine vv_aload_n X 0 rfl rfl dX8_join_0 ?_
  refine vv_getr (Nf := 9) (ref := (TX8 1).1) X (by decide) sh_90 rfl 1 (by decide) u_X8_join_8 k_X8_join_19 rfl rfl dX8_join_1 ?_
  refine vv_aload_n X 0 rfl rfl dX8_join_4 ?_
  refine vv_getr (Nf := 9) (ref := (TX8 0).1) X (by decide) sh_90 rfl 0 (by decide) u_X8_join_8 k_X8_join_10 rfl rfl dX8_join_5 ?_
  refine vv_callVV (As := [.ref (ad 0)]) (st := []) (Nf := 3) X 1 (c_X2_note l D cA had M d (hd10) (by omega) (by omega)) gX8_join_X2_note rfl (by decide +kernel) ⟨by decide, by decide⟩ (Nat.le_of_ble_eq_true rfl) ⟨by decide, by decide⟩ rfl (by decide) sh_91 rfl rfl dX8_join_8 (fun Ma qa => ?_)
  have ea : ∀ a, a < 9 → Ma a = M a := fun a ha => qa.1 a (by omega)
  have e91 : Ma 91 = M 91 := qa.1 91 (by omega)
  have e95 : Ma 95 = M 95 := qa.1 95 (by omega)
  have e0 : vC Ma 0 = vC M 0 := vC_eq (fun a _ h => ea a (by omega))
  have hwa : WF (vC Ma 0) := by rw [e0]; exact hw
  have ea0 := ea 0 (by decide)
  have ea1 := ea 1 (by decide)
  have ea6 := ea 6 (by decide)
  have hWa : cWR Ma := hwa.2.1
  have hna : 0 ≤ Ma 1 4 ∧ Ma 1 4 ≤ 5 := by rw [ea1]; exact hn5
  have hpa : 1 ≤ Ma 0 2 ∧ Ma 0 2 ≤ 99 := hwa.1
  refine vv_aload_n X 0 rfl rfl dX8_join_11 ?_
  refine vv_aload_n X 0 rfl rfl dX8_join_12 ?_
  refine vv_iload_n X 1 rfl rfl dX8_join_13 ?_
  refine vv_callVI (As := [.int (zI x)]) (st := [.ref (ad 90)]) (Nf := 9) X 1 (c_X8_joinWithNext l D cA had Ma x (by omega) (hwa.2.2)) gX8_join_X8_joinWithNext rfl (by decide +kernel) ⟨by decide, by decide⟩ (Nat.le_of_ble_eq_true rfl) ⟨by decide, by decide⟩ rfl (by decide) sh_90 rfl rfl dX8_join_14 (fun z14 Mb qb => ?_)
  obtain ⟨hO, hE⟩ := qb
  have hz := opJn_z hO
  have eb91 : Mb 91 = M 91 := (hE 91 (by decide)).trans e91
  refine vv_callVI (As := [.int (zI z14)]) (st := []) (Nf := 9) X 1 (c_X8_recorded l D cA had Mb z14 (by omega) (by rw [eb91]; exact hH1) (by rw [eb91]; exact hH2)) gX8_join_X8_recorded rfl (by decide +kernel) ⟨by decide, by decide⟩ (Nat.le_of_ble_eq_true rfl) ⟨by decide, by decide⟩ rfl (by decide) sh_90 rfl rfl dX8_join_17 (fun z17 Mr qr => ?_)
  exact vv_iret X hm (⟨chg_of (op := opJn x) hH hd hn5.2 hsm.2 qa hO (fun a ha => hE a (by simp; omega)) (by rw [hE 95 (by decide), e95]) qr, (rec95 qr).trans ((hE 95 (by decide)).trans e95)⟩) dX8_join_20
theorem u_X8_adopt_8 : ∀ w ∈ u_ws RX8 TX8 9, w ∈ wsX8_adopt := by decide +kernel
theorem k_X8_adopt_10 : Cond.fieldLink yX8_adopt.cls 10 (TX8 0).1 (TX8 0).2.1 (TX8 0).2.2.1 ∈ wsX8_adopt := by decide +kernel
theorem k_X8_adopt_19 : Cond.fieldLink yX8_adopt.cls 19 (TX8 1).1 (TX8 1).2.1 (TX8 1).2.2.1 ∈ wsX8_adopt := by decide +kernel
set_option maxRecDepth 100000 in
set_option maxHeartbeats 4000000 in
theorem c_X8_adopt (l : Launch) (D : va_G) {ad : Nat → Nat} (cA : Nat → ClassId) (had : adok ad) (M : Mem)  (hH : HI M) (hw : WF (vC M 0)) : CtI l yX8_adopt wsX8_adopt 5 108 D ad cA [.ref (ad 90)] M (fun z M1 => cChg (opB) (M 95 2) M z M1 ∧ M1 95 = M 95) := by
  refine CtI.of (cc := cX8_adopt) (maxL := 1) (ret := (some .int)) had (by decide) rfl (Nat.le_of_ble_eq_true rfl) ?_
  intro p e s m args below meth c X hm
  show VV p l e { frames := 5, cells := 0, slots := 0, locals := 108 } s m args below meth c 1 D ad cA (Afr ad s.heap.size) 0 0 (QI below args s D ad cA (fun z M1 => cChg (opB) (M 95 2) M z M1 ∧ M1 95 = M 95)) M 0 [(0, .ref (ad 90))] []
  have hsm : 1 ≤ M 6 2 ∧ M 6 2 ≤ 6 := WFs_pos hw.2.2
  have hwb : ∀ k : Nat, (k : Int) < M 6 2 → (1 ≤ M 7 k ∧ M 7 k ≤ 999) ∧ (0 ≤ M 8 k ∧ M 8 k ≤ 100) := fun k hk => WFs_b hw.2.2 hk
  have hW : cWR M := hw.2.1
  have hn5 : 0 ≤ M 1 4 ∧ M 1 4 ≤ 5 := by
    have q1 := hW.2.1
    have q2 := hW.1
    omega
  have hp9 : 1 ≤ M 0 2 ∧ M 0 2 ≤ 99 := hw.1
  obtain ⟨d, hd⟩ : ∃ d : Nat, (d : Int) = M 91 1 + 3 := ⟨(M 91 1 + 3).toNat, by have := hH.1; omega⟩
  have hd10 : d < 10 := by have := hH.1; omega
  have hH1 := hH.1
  have hH2 := hH.2
  refine vv_aload_n X 0 rfl rfl dX8_adopt_0 ?_
  refine vv_getr (Nf := 9) (ref := (TX8 1).1) X (by decide) sh_90 rfl 1 (by decide) u_X8_adopt_8 k_X8_adopt_19 rfl rfl dX8_adopt_1 ?_
  refine vv_aload_n X 0 rfl rfl dX8_adopt_4 ?_
  refine vv_getr (Nf := 9) (ref := (TX8 0).1) X (by decide) sh_90 rfl 0 (by decide) u_X8_adopt_8 k_X8_adopt_10 rfl rfl dX8_adopt_5 ?_
  refine vv_callVV (As := [.ref (ad 0)]) (st := []) (Nf := 3) X 1 (c_X2_note l D cA had M d (hd10) (by omega) (by omega)) gX8_adopt_X2_note rfl (by decide +kernel) ⟨by decide, by decide⟩ (Nat.le_of_ble_eq_true rfl) ⟨by decide, by decide⟩ rfl (by decide) sh_91 rfl rfl dX8_adopt_8 (fun Ma qa => ?_)
  have ea : ∀ a, a < 9 → Ma a = M a := fun a ha => qa.1 a (by omega)
  have e91 : Ma 91 = M 91 := qa.1 91 (by omega)
  have e95 : Ma 95 = M 95 := qa.1 95 (by omega)
  have e0 : vC Ma 0 = vC M 0 := vC_eq (fun a _ h => ea a (by omega))
  have hwa : WF (vC Ma 0) := by rw [e0]; exact hw
  have ea0 := ea 0 (by decide)
  have ea1 := ea 1 (by decide)
  have ea6 := ea 6 (by decide)
  have hWa : cWR Ma := hwa.2.1
  have hna : 0 ≤ Ma 1 4 ∧ Ma 1 4 ≤ 5 := by rw [ea1]; exact hn5
  have hpa : 1 ≤ Ma 0 2 ∧ Ma 0 2 ≤ 99 := hwa.1
  refine vv_aload_n X 0 rfl rfl dX8_adopt_11 ?_
  refine vv_aload_n X 0 rfl rfl dX8_adopt_12 ?_
  refine vv_callVI (As := []) (st := [.ref (ad 90)]) (Nf := 9) X 0 (c_X8_takeBest l D cA had Ma (hpa) (hWa)) gX8_adopt_X8_takeBest rfl (by decide +kernel) ⟨by decide, by decide⟩ (Nat.le_of_ble_eq_true rfl) ⟨by decide, by decide⟩ rfl (by decide) sh_90 rfl rfl dX8_adopt_13 (fun z13 Mb qb => ?_)
  obtain ⟨hO, hE⟩ := qb
  have hz := opB_z hO
  have eb91 : Mb 91 = M 91 := (hE 91 (by decide)).trans e91
  refine vv_callVI (As := [.int (zI z13)]) (st := []) (Nf := 9) X 1 (c_X8_recorded l D cA had Mb z13 (by omega) (by rw [eb91]; exact hH1) (by rw [eb91]; exact hH2)) gX8_adopt_X8_recorded rfl (by decide +kernel) ⟨by decide, by decide⟩ (Nat.le_of_ble_eq_true rfl) ⟨by decide, by decide⟩ rfl (by decide) sh_90 rfl rfl dX8_adopt_16 (fun z16 Mr qr => ?_)
  exact vv_iret X hm (⟨chg_of (op := opB) hH hd hn5.2 hsm.2 qa hO (fun a ha => hE a (by simp; omega)) (by rw [hE 95 (by decide), e95]) qr, (rec95 qr).trans ((hE 95 (by decide)).trans e95)⟩) dX8_adopt_19
theorem u_X8_receiver_5 : ∀ w ∈ u_ws RX5 TX5 5, w ∈ wsX8_receiver := by decide +kernel
theorem u_X8_receiver_7 : ∀ w ∈ u_ws RX7 TX7 3, w ∈ wsX8_receiver := by decide +kernel
theorem u_X8_receiver_8 : ∀ w ∈ u_ws RX8 TX8 9, w ∈ wsX8_receiver := by decide +kernel
theorem k_X8_receiver_10 : Cond.fieldLink yX8_receiver.cls 10 (TX8 0).1 (TX8 0).2.1 (TX8 0).2.2.1 ∈ wsX8_receiver := by decide +kernel
theorem k_X8_receiver_73 : Cond.fieldLink yX8_receiver.cls 73 (TX7 0).1 (TX7 0).2.1 (TX7 0).2.2.1 ∈ wsX8_receiver := by decide +kernel
theorem k_X8_receiver_101 : Cond.fieldLink yX8_receiver.cls 101 (TX5 0).1 (TX5 0).2.1 (TX5 0).2.2.1 ∈ wsX8_receiver := by decide +kernel
theorem k_X8_receiver_105 : Cond.fieldLink yX8_receiver.cls 105 (TX5 1).1 (TX5 1).2.1 (TX5 1).2.2.1 ∈ wsX8_receiver := by decide +kernel
theorem k_X8_receiver_108 : Cond.fieldLink yX8_receiver.cls 108 (TX5 2).1 (TX5 2).2.1 (TX5 2).2.2.1 ∈ wsX8_receiver := by decide +kernel
theorem k_X8_receiver_111 : Cond.fieldLink yX8_receiver.cls 111 (TX5 3).1 (TX5 3).2.1 (TX5 3).2.2.1 ∈ wsX8_receiver := by decide +kernel
set_option maxRecDepth 100000 in
set_option maxHeartbeats 4000000 in
theorem c_X8_receiver (l : Launch) (D : va_G) {ad : Nat → Nat} (cA : Nat → ClassId) (had : adok ad) (M : Mem) (r w : Int) (hr : -2147483648 ≤ r ∧ r ≤ 2147483647) (hw : -2147483648 ≤ w ∧ w ≤ 2147483647) (hw : WF (vC M 0)) : CtI l yX8_receiver wsX8_receiver 2 44 D ad cA [.ref (ad 90), .int (zI r), .int (zI w)] M (fun z M1 => qRec r w (vC M 0) z ∧ eqx M M1 [100, 101, 102, 103, 104]) := by
  refine CtI.of (cc := cX8_receiver) (maxL := 4) (ret := (some .int)) had (by decide) rfl (Nat.le_of_ble_eq_true rfl) ?_
  intro p e s m args below meth c X hm
  show VV p l e { frames := 2, cells := 0, slots := 0, locals := 44 } s m args below meth c 4 D ad cA (Afr ad s.heap.size) 0 0 (QI below args s D ad cA (fun z M1 => qRec r w (vC M 0) z ∧ eqx M M1 [100, 101, 102, 103, 104])) M 0 [(0, .ref (ad 90)), (1, .int (zI r)), (2, .int (zI w))] []
  have hsm : 1 ≤ M 6 2 ∧ M 6 2 ≤ 6 := WFs_pos hw.2.2
  have hwb : ∀ k : Nat, (k : Int) < M 6 2 → (1 ≤ M 7 k ∧ M 7 k ≤ 999) ∧ (0 ≤ M 8 k ∧ M 8 k ≤ 100) := fun k hk => WFs_b hw.2.2 hk
  have hW : cWR M := hw.2.1
  have hn5 : 0 ≤ M 1 4 ∧ M 1 4 ≤ 5 := by
    have q1 := hW.2.1
    have q2 := hW.1
    omega
  have hp9 : 1 ≤ M 0 2 ∧ M 0 2 ≤ 99 := hw.1
  refine vv_aload_n X 0 rfl rfl dX8_receiver_0 ?_
  refine vv_getr (Nf := 9) (ref := (TX8 0).1) X (by decide) sh_90 rfl 0 (by decide) u_X8_receiver_8 k_X8_receiver_10 rfl rfl dX8_receiver_1 ?_
  refine vv_getr (Nf := 3) (ref := (TX7 0).1) X (by decide) sh_0 rfl 0 (by decide) u_X8_receiver_7 k_X8_receiver_73 rfl rfl dX8_receiver_4 ?_
  refine vv_astore_n (lv' := [(3, .ref (ad 1)), (0, .ref (ad 90)), (1, .int (zI r)), (2, .int (zI w))]) X rfl (by decide) rfl dX8_receiver_7 ?_
  refine vv_aload_n X 0 rfl rfl dX8_receiver_8 ?_
  refine vv_iload_n X 2 rfl rfl dX8_receiver_9 ?_
  refine vv_callVI (As := [.int (zI r)]) (st := []) (Nf := 5) X 1 (c_X5_has l D cA had M r (by omega) (by omega)) gX8_receiver_X5_has rfl (by decide +kernel) ⟨by decide, by decide⟩ (Nat.le_of_ble_eq_true rfl) ⟨by decide, by decide⟩ rfl (by decide) sh_1 rfl rfl dX8_receiver_10 (fun z10 Mc10 q_10 => ?_)
  obtain ⟨e_z10, g_z10⟩ := q_10
  have g_z10 := g_z10.symm
  subst g_z10
  refine vv_if_ne (tgt := 18) X (by rw [e_z10]; split <;> omega) dX8_receiver_13 (by decide) (fun c_13 => ?_) (fun c_13 => ?_)
  · skip
    have hin : 0 ≤ r ∧ r < M 1 4 := Classical.byContradiction fun q => by rw [if_neg q] at e_z10; omega
    refine vv_iload_n X 3 rfl rfl dX8_receiver_18 ?_
    by_cases c_19 : w < 0 ∨ 4 < w
    · skip
      refine vv_tabOut (tgt := 89) X (by omega) dX8_receiver_19 c_19 (by decide) ?_
      refine vv_bipush (n := (-2)) X (by decide) dX8_receiver_89 ?_
      exact vv_iret X hm (⟨⟨fun q => absurd hin q, fun _ => ⟨fun q => by first | (exfalso; omega) | rfl, fun q => by first | (exfalso; omega) | rfl, fun q => by first | (exfalso; omega) | rfl, fun q => by first | (exfalso; omega) | rfl, fun q => by first | (exfalso; omega) | exact e_z85, fun q => by first | (exfalso; omega) | rfl⟩⟩, eqx_rf _ _⟩) dX8_receiver_91
    by_cases c_19_0 : w = 0
    · skip
      refine vv_tabIn (tgt := 52) (off := 33) X (by omega) dX8_receiver_19 (by omega) (by omega) (by rw [c_19_0]; rfl) (by decide) ?_
      refine vv_aload_n X 0 rfl rfl dX8_receiver_52 ?_
      refine vv_getr (Nf := 5) (ref := (TX5 0).1) X (by decide) sh_1 rfl 0 (by decide) u_X8_receiver_5 k_X8_receiver_101 rfl rfl dX8_receiver_53 ?_
      refine vv_iload_n X 2 rfl rfl dX8_receiver_56 ?_
      refine vv_iald (z := (M 2 (Int.toNat r))) X (by decide) sh_2 (by decide) (by omega) (rfl) dX8_receiver_57 ?_
      exact vv_iret X hm (⟨⟨fun q => absurd hin q, fun _ => ⟨fun q => by first | (exfalso; omega) | rfl, fun q => by first | (exfalso; omega) | rfl, fun q => by first | (exfalso; omega) | rfl, fun q => by first | (exfalso; omega) | rfl, fun q => by first | (exfalso; omega) | exact e_z85, fun q => by first | (exfalso; omega) | rfl⟩⟩, eqx_rf _ _⟩) dX8_receiver_58
    by_cases c_19_1 : w = 1
    · skip
      refine vv_tabIn (tgt := 59) (off := 40) X (by omega) dX8_receiver_19 (by omega) (by omega) (by rw [c_19_1]; rfl) (by decide) ?_
      refine vv_aload_n X 0 rfl rfl dX8_receiver_59 ?_
      refine vv_getr (Nf := 5) (ref := (TX5 1).1) X (by decide) sh_1 rfl 1 (by decide) u_X8_receiver_5 k_X8_receiver_105 rfl rfl dX8_receiver_60 ?_
      refine vv_iload_n X 2 rfl rfl dX8_receiver_63 ?_
      refine vv_iald (z := (M 3 (Int.toNat r))) X (by decide) sh_3 (by decide) (by omega) (rfl) dX8_receiver_64 ?_
      exact vv_iret X hm (⟨⟨fun q => absurd hin q, fun _ => ⟨fun q => by first | (exfalso; omega) | rfl, fun q => by first | (exfalso; omega) | rfl, fun q => by first | (exfalso; omega) | rfl, fun q => by first | (exfalso; omega) | rfl, fun q => by first | (exfalso; omega) | exact e_z85, fun q => by first | (exfalso; omega) | rfl⟩⟩, eqx_rf _ _⟩) dX8_receiver_65
    by_cases c_19_2 : w = 2
    · skip
      refine vv_tabIn (tgt := 66) (off := 47) X (by omega) dX8_receiver_19 (by omega) (by omega) (by rw [c_19_2]; rfl) (by decide) ?_
      refine vv_aload_n X 0 rfl rfl dX8_receiver_66 ?_
      refine vv_getr (Nf := 5) (ref := (TX5 2).1) X (by decide) sh_1 rfl 2 (by decide) u_X8_receiver_5 k_X8_receiver_108 rfl rfl dX8_receiver_67 ?_
      refine vv_iload_n X 2 rfl rfl dX8_receiver_70 ?_
      refine vv_iald (z := (M 4 (Int.toNat r))) X (by decide) sh_4 (by decide) (by omega) (rfl) dX8_receiver_71 ?_
      exact vv_iret X hm (⟨⟨fun q => absurd hin q, fun _ => ⟨fun q => by first | (exfalso; omega) | rfl, fun q => by first | (exfalso; omega) | rfl, fun q => by first | (exfalso; omega) | rfl, fun q => by first | (exfalso; omega) | rfl, fun q => by first | (exfalso; omega) | exact e_z85, fun q => by first | (exfalso; omega) | rfl⟩⟩, eqx_rf _ _⟩) dX8_receiver_72
    by_cases c_19_3 : w = 3
    · skip
      refine vv_tabIn (tgt := 73) (off := 54) X (by omega) dX8_receiver_19 (by omega) (by omega) (by rw [c_19_3]; rfl) (by decide) ?_
      refine vv_aload_n X 0 rfl rfl dX8_receiver_73 ?_
      refine vv_getr (Nf := 5) (ref := (TX5 3).1) X (by decide) sh_1 rfl 3 (by decide) u_X8_receiver_5 k_X8_receiver_111 rfl rfl dX8_receiver_74 ?_
      refine vv_iload_n X 2 rfl rfl dX8_receiver_77 ?_
      refine vv_iald (z := (M 5 (Int.toNat r))) X (by decide) sh_5 (by decide) (by omega) (rfl) dX8_receiver_78 ?_
      refine vv_bipush (n := 100) X (by decide) dX8_receiver_79 ?_
      refine vv_iadd X dX8_receiver_81 ?_
      exact vv_iret X hm (⟨⟨fun q => absurd hin q, fun _ => ⟨fun q => by first | (exfalso; omega) | rfl, fun q => by first | (exfalso; omega) | rfl, fun q => by first | (exfalso; omega) | rfl, fun q => by first | (exfalso; omega) | rfl, fun q => by first | (exfalso; omega) | exact e_z85, fun q => by first | (exfalso; omega) | rfl⟩⟩, eqx_rf _ _⟩) dX8_receiver_82
    have c_19_4 : w = 4 := by omega
    · skip
      refine vv_tabIn (tgt := 83) (off := 64) X (by omega) dX8_receiver_19 (by omega) (by omega) (by rw [c_19_4]; rfl) (by decide) ?_
      refine vv_aload_n X 0 rfl rfl dX8_receiver_83 ?_
      refine vv_iload_n X 2 rfl rfl dX8_receiver_84 ?_
      refine vv_callVI (As := [.int (zI r)]) (st := []) (Nf := 5) X 1 (c_X5_leastActing l D cA had M r (by omega) (by assumption)) gX8_receiver_X5_leastActing rfl (by decide +kernel) ⟨by decide, by decide⟩ (Nat.le_of_ble_eq_true rfl) ⟨by decide, by decide⟩ rfl (by decide) sh_1 rfl rfl dX8_receiver_85 (fun z85 Mc85 q_85 => ?_)
      obtain ⟨e_z85, g_z85⟩ := q_85
      have g_z85 := g_z85.symm
      subst g_z85
      exact vv_iret X hm (⟨⟨fun q => absurd hin q, fun _ => ⟨fun q => by first | (exfalso; omega) | rfl, fun q => by first | (exfalso; omega) | rfl, fun q => by first | (exfalso; omega) | rfl, fun q => by first | (exfalso; omega) | rfl, fun q => by first | (exfalso; omega) | exact e_z85, fun q => by first | (exfalso; omega) | rfl⟩⟩, eqx_rf _ _⟩) dX8_receiver_88
  · skip
    have hin : ¬ (0 ≤ r ∧ r < M 1 4) := fun q => by rw [if_pos q] at e_z10; omega
    refine vv_iconst (n := (-1)) X dX8_receiver_16 ?_
    exact vv_iret X hm (⟨⟨fun _ => rfl, fun q => absurd q hin⟩, eqx_rf _ _⟩) dX8_receiver_17
theorem u_X8_part_6 : ∀ w ∈ u_ws RX6 TX6 3, w ∈ wsX8_part := by decide +kernel
theorem u_X8_part_7 : ∀ w ∈ u_ws RX7 TX7 3, w ∈ wsX8_part := by decide +kernel
theorem u_X8_part_8 : ∀ w ∈ u_ws RX8 TX8 9, w ∈ wsX8_part := by decide +kernel
theorem k_X8_part_10 : Cond.fieldLink yX8_part.cls 10 (TX8 0).1 (TX8 0).2.1 (TX8 0).2.2.1 ∈ wsX8_part := by decide +kernel
theorem k_X8_part_73 : Cond.fieldLink yX8_part.cls 73 (TX7 0).1 (TX7 0).2.1 (TX7 0).2.2.1 ∈ wsX8_part := by decide +kernel
theorem k_X8_part_117 : Cond.fieldLink yX8_part.cls 117 (TX7 1).1 (TX7 1).2.1 (TX7 1).2.2.1 ∈ wsX8_part := by decide +kernel
theorem k_X8_part_124 : Cond.fieldLink yX8_part.cls 124 (TX6 0).1 (TX6 0).2.1 (TX6 0).2.2.1 ∈ wsX8_part := by decide +kernel
theorem k_X8_part_127 : Cond.fieldLink yX8_part.cls 127 (TX6 1).1 (TX6 1).2.1 (TX6 1).2.2.1 ∈ wsX8_part := by decide +kernel
set_option maxRecDepth 100000 in
set_option maxHeartbeats 4000000 in
theorem c_X8_part (l : Launch) (D : va_G) {ad : Nat → Nat} (cA : Nat → ClassId) (had : adok ad) (M : Mem) (r w : Int) (hr : -2147483648 ≤ r ∧ r ≤ 2147483647) (hw : -2147483648 ≤ w ∧ w ≤ 2147483647) (hw : WF (vC M 0)) : CtI l yX8_part wsX8_part 2 47 D ad cA [.ref (ad 90), .int (zI r), .int (zI w)] M (fun z M1 => qPart r w (vC M 0) z ∧ eqx M M1 [100, 101, 102, 103, 104]) := by
  refine CtI.of (cc := cX8_part) (maxL := 4) (ret := (some .int)) had (by decide) rfl (Nat.le_of_ble_eq_true rfl) ?_
  intro p e s m args below meth c X hm
  show VV p l e { frames := 2, cells := 0, slots := 0, locals := 47 } s m args below meth c 4 D ad cA (Afr ad s.heap.size) 0 0 (QI below args s D ad cA (fun z M1 => qPart r w (vC M 0) z ∧ eqx M M1 [100, 101, 102, 103, 104])) M 0 [(0, .ref (ad 90)), (1, .int (zI r)), (2, .int (zI w))] []
  have hsm : 1 ≤ M 6 2 ∧ M 6 2 ≤ 6 := WFs_pos hw.2.2
  have hwb : ∀ k : Nat, (k : Int) < M 6 2 → (1 ≤ M 7 k ∧ M 7 k ≤ 999) ∧ (0 ≤ M 8 k ∧ M 8 k ≤ 100) := fun k hk => WFs_b hw.2.2 hk
  have hW : cWR M := hw.2.1
  have hn5 : 0 ≤ M 1 4 ∧ M 1 4 ≤ 5 := by
    have q1 := hW.2.1
    have q2 := hW.1
    omega
  have hp9 : 1 ≤ M 0 2 ∧ M 0 2 ≤ 99 := hw.1
  refine vv_aload_n X 0 rfl rfl dX8_part_0 ?_
  refine vv_getr (Nf := 9) (ref := (TX8 0).1) X (by decide) sh_90 rfl 0 (by decide) u_X8_part_8 k_X8_part_10 rfl rfl dX8_part_1 ?_
  refine vv_getr (Nf := 3) (ref := (TX7 1).1) X (by decide) sh_0 rfl 1 (by decide) u_X8_part_7 k_X8_part_117 rfl rfl dX8_part_4 ?_
  refine vv_astore_n (lv' := [(3, .ref (ad 6)), (0, .ref (ad 90)), (1, .int (zI r)), (2, .int (zI w))]) X rfl (by decide) rfl dX8_part_7 ?_
  refine vv_aload_n X 0 rfl rfl dX8_part_8 ?_
  refine vv_iload_n X 2 rfl rfl dX8_part_9 ?_
  refine vv_callVI (As := [.int (zI r)]) (st := []) (Nf := 3) X 1 (c_X6_has l D cA had M r (by omega) (by omega)) gX8_part_X6_has rfl (by decide +kernel) ⟨by decide, by decide⟩ (Nat.le_of_ble_eq_true rfl) ⟨by decide, by decide⟩ rfl (by decide) sh_6 rfl rfl dX8_part_10 (fun z10 Mc10 q_10 => ?_)
  obtain ⟨e_z10, g_z10⟩ := q_10
  have g_z10 := g_z10.symm
  subst g_z10
  refine vv_if_ne (tgt := 18) X (by rw [e_z10]; split <;> omega) dX8_part_13 (by decide) (fun c_13 => ?_) (fun c_13 => ?_)
  · skip
    have hin : 0 ≤ r ∧ r < M 6 2 := Classical.byContradiction fun q => by rw [if_neg q] at e_z10; omega
    have hwr := hwb r.toNat (by omega)
    refine vv_iload_n X 3 rfl rfl dX8_part_18 ?_
    by_cases c_19 : w < 0 ∨ 3 < w
    · skip
      refine vv_tabOut (tgt := 100) X (by omega) dX8_part_19 c_19 (by decide) ?_
      refine vv_bipush (n := (-2)) X (by decide) dX8_part_100 ?_
      exact vv_iret X hm (⟨⟨fun q => absurd hin q, fun _ => ⟨fun q => by first | (exfalso; omega) | rfl, fun q => by first | (exfalso; omega) | rfl, fun q => by first | (exfalso; omega) | exact e_z75, fun q => by first | (exfalso; omega) | (rw [e_z92]; rfl), fun q => by first | (exfalso; omega) | rfl⟩⟩, eqx_rf _ _⟩) dX8_part_102
    by_cases c_19_0 : w = 0
    · skip
      refine vv_tabIn (tgt := 48) (off := 29) X (by omega) dX8_part_19 (by omega) (by omega) (by rw [c_19_0]; rfl) (by decide) ?_
      refine vv_aload_n X 0 rfl rfl dX8_part_48 ?_
      refine vv_getr (Nf := 3) (ref := (TX6 0).1) X (by decide) sh_6 rfl 0 (by decide) u_X8_part_6 k_X8_part_124 rfl rfl dX8_part_49 ?_
      refine vv_iload_n X 2 rfl rfl dX8_part_52 ?_
      refine vv_iald (z := (M 7 (Int.toNat r))) X (by decide) sh_7 (by decide) (by omega) (rfl) dX8_part_53 ?_
      exact vv_iret X hm (⟨⟨fun q => absurd hin q, fun _ => ⟨fun q => by first | (exfalso; omega) | rfl, fun q => by first | (exfalso; omega) | rfl, fun q => by first | (exfalso; omega) | exact e_z75, fun q => by first | (exfalso; omega) | (rw [e_z92]; rfl), fun q => by first | (exfalso; omega) | rfl⟩⟩, eqx_rf _ _⟩) dX8_part_54
    by_cases c_19_1 : w = 1
    · skip
      refine vv_tabIn (tgt := 55) (off := 36) X (by omega) dX8_part_19 (by omega) (by omega) (by rw [c_19_1]; rfl) (by decide) ?_
      refine vv_aload_n X 0 rfl rfl dX8_part_55 ?_
      refine vv_getr (Nf := 3) (ref := (TX6 1).1) X (by decide) sh_6 rfl 1 (by decide) u_X8_part_6 k_X8_part_127 rfl rfl dX8_part_56 ?_
      refine vv_iload_n X 2 rfl rfl dX8_part_59 ?_
      refine vv_iald (z := (M 8 (Int.toNat r))) X (by decide) sh_8 (by decide) (by omega) (rfl) dX8_part_60 ?_
      exact vv_iret X hm (⟨⟨fun q => absurd hin q, fun _ => ⟨fun q => by first | (exfalso; omega) | rfl, fun q => by first | (exfalso; omega) | rfl, fun q => by first | (exfalso; omega) | exact e_z75, fun q => by first | (exfalso; omega) | (rw [e_z92]; rfl), fun q => by first | (exfalso; omega) | rfl⟩⟩, eqx_rf _ _⟩) dX8_part_61
    by_cases c_19_2 : w = 2
    · skip
      refine vv_tabIn (tgt := 62) (off := 43) X (by omega) dX8_part_19 (by omega) (by omega) (by rw [c_19_2]; rfl) (by decide) ?_
      refine vv_aload_n X 1 rfl rfl dX8_part_62 ?_
      refine vv_getr (Nf := 9) (ref := (TX8 0).1) X (by decide) sh_90 rfl 0 (by decide) u_X8_part_8 k_X8_part_10 rfl rfl dX8_part_63 ?_
      refine vv_getr (Nf := 3) (ref := (TX7 0).1) X (by decide) sh_0 rfl 0 (by decide) u_X8_part_7 k_X8_part_73 rfl rfl dX8_part_66 ?_
      refine vv_aload_n X 0 rfl rfl dX8_part_69 ?_
      refine vv_getr (Nf := 3) (ref := (TX6 1).1) X (by decide) sh_6 rfl 1 (by decide) u_X8_part_6 k_X8_part_127 rfl rfl dX8_part_70 ?_
      refine vv_iload_n X 2 rfl rfl dX8_part_73 ?_
      refine vv_iald (z := (M 8 (Int.toNat r))) X (by decide) sh_8 (by decide) (by omega) (rfl) dX8_part_74 ?_
      refine vv_callVI (As := [.int (zI (M 8 (Int.toNat r)))]) (st := []) (Nf := 5) X 1 (c_X5_actingAt l D cA had M (M 8 (Int.toNat r)) (by omega) (by assumption)) gX8_part_X5_actingAt rfl (by decide +kernel) ⟨by decide, by decide⟩ (Nat.le_of_ble_eq_true rfl) ⟨by decide, by decide⟩ rfl (by decide) sh_1 rfl rfl dX8_part_75 (fun z75 Mc75 q_75 => ?_)
      obtain ⟨e_z75, g_z75⟩ := q_75
      have g_z75 := g_z75.symm
      subst g_z75
      exact vv_iret X hm (⟨⟨fun q => absurd hin q, fun _ => ⟨fun q => by first | (exfalso; omega) | rfl, fun q => by first | (exfalso; omega) | rfl, fun q => by first | (exfalso; omega) | exact e_z75, fun q => by first | (exfalso; omega) | (rw [e_z92]; rfl), fun q => by first | (exfalso; omega) | rfl⟩⟩, eqx_rf _ _⟩) dX8_part_78
    have c_19_3 : w = 3 := by omega
    · skip
      refine vv_tabIn (tgt := 79) (off := 60) X (by omega) dX8_part_19 (by omega) (by omega) (by rw [c_19_3]; rfl) (by decide) ?_
      refine vv_aload_n X 1 rfl rfl dX8_part_79 ?_
      refine vv_getr (Nf := 9) (ref := (TX8 0).1) X (by decide) sh_90 rfl 0 (by decide) u_X8_part_8 k_X8_part_10 rfl rfl dX8_part_80 ?_
      refine vv_getr (Nf := 3) (ref := (TX7 0).1) X (by decide) sh_0 rfl 0 (by decide) u_X8_part_7 k_X8_part_73 rfl rfl dX8_part_83 ?_
      refine vv_aload_n X 0 rfl rfl dX8_part_86 ?_
      refine vv_getr (Nf := 3) (ref := (TX6 1).1) X (by decide) sh_6 rfl 1 (by decide) u_X8_part_6 k_X8_part_127 rfl rfl dX8_part_87 ?_
      refine vv_iload_n X 2 rfl rfl dX8_part_90 ?_
      refine vv_iald (z := (M 8 (Int.toNat r))) X (by decide) sh_8 (by decide) (by omega) (rfl) dX8_part_91 ?_
      refine vv_callVI (As := [.int (zI (M 8 (Int.toNat r)))]) (st := []) (Nf := 5) X 1 (c_X5_valueAt l D cA had M (M 8 (Int.toNat r)) (by omega) (by assumption)) gX8_part_X5_valueAt rfl (by decide +kernel) ⟨by decide, by decide⟩ (Nat.le_of_ble_eq_true rfl) ⟨by decide, by decide⟩ rfl (by decide) sh_1 rfl rfl dX8_part_92 (fun z92 Mc92 q_92 => ?_)
      obtain ⟨e_z92, g_z92⟩ := q_92
      have g_z92 := g_z92.symm
      subst g_z92
      refine vv_sipush (n := 1000) X (by decide) dX8_part_95 ?_
      refine vv_iadd X dX8_part_98 ?_
      exact vv_iret X hm (⟨⟨fun q => absurd hin q, fun _ => ⟨fun q => by first | (exfalso; omega) | rfl, fun q => by first | (exfalso; omega) | rfl, fun q => by first | (exfalso; omega) | exact e_z75, fun q => by first | (exfalso; omega) | (rw [e_z92]; rfl), fun q => by first | (exfalso; omega) | rfl⟩⟩, eqx_rf _ _⟩) dX8_part_99
  · skip
    have hin : ¬ (0 ≤ r ∧ r < M 6 2) := fun q => by rw [if_pos q] at e_z10; omega
    refine vv_iconst (n := (-1)) X dX8_part_16 ?_
    exact vv_iret X hm (⟨⟨fun _ => rfl, fun q => absurd q hin⟩, eqx_rf _ _⟩) dX8_part_17
theorem u_X8_value_7 : ∀ w ∈ u_ws RX7 TX7 3, w ∈ wsX8_value := by decide +kernel
theorem u_X8_value_8 : ∀ w ∈ u_ws RX8 TX8 9, w ∈ wsX8_value := by decide +kernel
theorem k_X8_value_10 : Cond.fieldLink yX8_value.cls 10 (TX8 0).1 (TX8 0).2.1 (TX8 0).2.2.1 ∈ wsX8_value := by decide +kernel
theorem k_X8_value_73 : Cond.fieldLink yX8_value.cls 73 (TX7 0).1 (TX7 0).2.1 (TX7 0).2.2.1 ∈ wsX8_value := by decide +kernel
set_option maxRecDepth 100000 in
set_option maxHeartbeats 4000000 in
theorem c_X8_value (l : Launch) (D : va_G) {ad : Nat → Nat} (cA : Nat → ClassId) (had : adok ad) (M : Mem) (x : Int) (hx : -2147483648 ≤ x ∧ x ≤ 2147483647) (hw : WF (vC M 0)) : CtI l yX8_value wsX8_value 2 47 D ad cA [.ref (ad 90), .int (zI x)] M (fun z M1 => qVal x (vC M 0) z ∧ eqx M M1 [100, 101, 102, 103, 104]) := by
  refine CtI.of (cc := cX8_value) (maxL := 2) (ret := (some .int)) had (by decide) rfl (Nat.le_of_ble_eq_true rfl) ?_
  intro p e s m args below meth c X hm
  show VV p l e { frames := 2, cells := 0, slots := 0, locals := 47 } s m args below meth c 2 D ad cA (Afr ad s.heap.size) 0 0 (QI below args s D ad cA (fun z M1 => qVal x (vC M 0) z ∧ eqx M M1 [100, 101, 102, 103, 104])) M 0 [(0, .ref (ad 90)), (1, .int (zI x))] []
  have hsm : 1 ≤ M 6 2 ∧ M 6 2 ≤ 6 := WFs_pos hw.2.2
  have hwb : ∀ k : Nat, (k : Int) < M 6 2 → (1 ≤ M 7 k ∧ M 7 k ≤ 999) ∧ (0 ≤ M 8 k ∧ M 8 k ≤ 100) := fun k hk => WFs_b hw.2.2 hk
  have hW : cWR M := hw.2.1
  have hn5 : 0 ≤ M 1 4 ∧ M 1 4 ≤ 5 := by
    have q1 := hW.2.1
    have q2 := hW.1
    omega
  have hp9 : 1 ≤ M 0 2 ∧ M 0 2 ≤ 99 := hw.1
  refine vv_iload_n X 1 rfl rfl dX8_value_0 ?_
  refine vv_callSI (As := [.int (zI x)]) (st := []) X 1 (c_X8_isPosterior l D cA had M x (by omega)) gX8_value_X8_isPosterior rfl (by decide +kernel) ⟨by decide, by decide⟩ (Nat.le_of_ble_eq_true rfl) ⟨by decide, by decide⟩ rfl rfl dX8_value_1 (fun z1 Mc1 q_1 => ?_)
  obtain ⟨e_z1, g_z1⟩ := q_1
  have g_z1 := g_z1.symm
  subst g_z1
  refine vv_if_ne (tgt := 10) X (by rw [e_z1]; split <;> omega) dX8_value_4 (by decide) (fun c_4 => ?_) (fun c_4 => ?_)
  · skip
    have hin : 0 ≤ x ∧ x ≤ 100 := Classical.byContradiction fun q => by rw [if_neg q] at e_z1; omega
    refine vv_aload_n X 0 rfl rfl dX8_value_10 ?_
    refine vv_getr (Nf := 9) (ref := (TX8 0).1) X (by decide) sh_90 rfl 0 (by decide) u_X8_value_8 k_X8_value_10 rfl rfl dX8_value_11 ?_
    refine vv_getr (Nf := 3) (ref := (TX7 0).1) X (by decide) sh_0 rfl 0 (by decide) u_X8_value_7 k_X8_value_73 rfl rfl dX8_value_14 ?_
    refine vv_iload_n X 1 rfl rfl dX8_value_17 ?_
    refine vv_callVI (As := [.int (zI x)]) (st := []) (Nf := 5) X 1 (c_X5_valueAt l D cA had M x (by omega) (by assumption)) gX8_value_X5_valueAt rfl (by decide +kernel) ⟨by decide, by decide⟩ (Nat.le_of_ble_eq_true rfl) ⟨by decide, by decide⟩ rfl (by decide) sh_1 rfl rfl dX8_value_18 (fun z18 Mc18 q_18 => ?_)
    obtain ⟨e_z18, g_z18⟩ := q_18
    have g_z18 := g_z18.symm
    subst g_z18
    refine vv_sipush (n := 1000) X (by decide) dX8_value_21 ?_
    refine vv_iadd X dX8_value_24 ?_
    exact vv_iret X hm (⟨⟨fun q => absurd hin q, fun _ => by rw [e_z18]; rfl⟩, eqx_rf _ _⟩) dX8_value_25
  · skip
    have hin : ¬ (0 ≤ x ∧ x ≤ 100) := fun q => by rw [if_pos q] at e_z1; omega
    refine vv_bipush (n := (-2)) X (by decide) dX8_value_7 ?_
    exact vv_iret X hm (⟨⟨fun _ => rfl, fun q => absurd q hin⟩, eqx_rf _ _⟩) dX8_value_9
theorem u_X8_mean_1 : ∀ w ∈ u_ws RX1 TX1 2, w ∈ wsX8_mean := by decide +kernel
theorem u_X8_mean_8 : ∀ w ∈ u_ws RX8 TX8 9, w ∈ wsX8_mean := by decide +kernel
theorem k_X8_mean_10 : Cond.fieldLink yX8_mean.cls 10 (TX8 0).1 (TX8 0).2.1 (TX8 0).2.2.1 ∈ wsX8_mean := by decide +kernel
theorem k_X8_mean_55 : Cond.fieldLink yX8_mean.cls 55 (TX8 7).1 (TX8 7).2.1 (TX8 7).2.2.1 ∈ wsX8_mean := by decide +kernel
theorem k_X8_mean_146 : Cond.fieldLink yX8_mean.cls 146 (TX1 0).1 (TX1 0).2.1 (TX1 0).2.2.1 ∈ wsX8_mean := by decide +kernel
theorem k_X8_mean_151 : Cond.fieldLink yX8_mean.cls 151 (TX1 1).1 (TX1 1).2.1 (TX1 1).2.2.1 ∈ wsX8_mean := by decide +kernel
set_option maxRecDepth 100000 in
set_option maxHeartbeats 4000000 in
theorem c_X8_mean (l : Launch) (D : va_G) {ad : Nat → Nat} (cA : Nat → ClassId) (had : adok ad) (M : Mem) (w : Int) (hw : -2147483648 ≤ w ∧ w ≤ 2147483647) (hw : WF (vC M 0)) : CtI l yX8_mean wsX8_mean 4 92 D ad cA [.ref (ad 90), .int (zI w)] M (fun z M1 => qMean w (vC M 0) z ∧ eqx M M1 [100, 101, 102, 103, 104]) := by
  refine CtI.of (cc := cX8_mean) (maxL := 2) (ret := (some .int)) had (by decide) rfl (Nat.le_of_ble_eq_true rfl) ?_
  intro p e s m args below meth c X hm
  show VV p l e { frames := 4, cells := 0, slots := 0, locals := 92 } s m args below meth c 2 D ad cA (Afr ad s.heap.size) 0 0 (QI below args s D ad cA (fun z M1 => qMean w (vC M 0) z ∧ eqx M M1 [100, 101, 102, 103, 104])) M 0 [(0, .ref (ad 90)), (1, .int (zI w))] []
  have hsm : 1 ≤ M 6 2 ∧ M 6 2 ≤ 6 := WFs_pos hw.2.2
  have hwb : ∀ k : Nat, (k : Int) < M 6 2 → (1 ≤ M 7 k ∧ M 7 k ≤ 999) ∧ (0 ≤ M 8 k ∧ M 8 k ≤ 100) := fun k hk => WFs_b hw.2.2 hk
  have hW : cWR M := hw.2.1
  have hn5 : 0 ≤ M 1 4 ∧ M 1 4 ≤ 5 := by
    have q1 := hW.2.1
    have q2 := hW.1
    omega
  have hp9 : 1 ≤ M 0 2 ∧ M 0 2 ≤ 99 := hw.1
  refine vv_iload_n X 1 rfl rfl dX8_mean_0 ?_
  refine vv_callSI (As := [.int (zI w)]) (st := []) X 1 (c_X8_isHalfOfFraction l D cA had M w (by omega)) gX8_mean_X8_isHalfOfFraction rfl (by decide +kernel) ⟨by decide, by decide⟩ (Nat.le_of_ble_eq_true rfl) ⟨by decide, by decide⟩ rfl rfl dX8_mean_1 (fun z1 Mc1 q_1 => ?_)
  obtain ⟨e_z1, g_z1⟩ := q_1
  have g_z1 := g_z1.symm
  subst g_z1
  refine vv_if_ne (tgt := 10) X (by rw [e_z1]; split <;> omega) dX8_mean_4 (by decide) (fun c_4 => ?_) (fun c_4 => ?_)
  · skip
    have hin : w = 0 ∨ w = 1 := Classical.byContradiction fun q => by rw [if_neg q] at e_z1; omega
    refine vv_aload_n X 0 rfl rfl dX8_mean_10 ?_
    refine vv_getr (Nf := 9) (ref := (TX8 0).1) X (by decide) sh_90 rfl 0 (by decide) u_X8_mean_8 k_X8_mean_10 rfl rfl dX8_mean_11 ?_
    refine vv_aload_n X 0 rfl rfl dX8_mean_14 ?_
    refine vv_getr (Nf := 9) (ref := (TX8 7).1) X (by decide) sh_90 rfl 7 (by decide) u_X8_mean_8 k_X8_mean_55 rfl rfl dX8_mean_15 ?_
    refine vv_callVV (As := [.ref (ad 103)]) (st := []) (Nf := 3) X 1 (c_X7_tellMeanValue l D cA had M (by omega) (by assumption) (by assumption)) gX8_mean_X7_tellMeanValue rfl (by decide +kernel) ⟨by decide, by decide⟩ (Nat.le_of_ble_eq_true rfl) ⟨by decide, by decide⟩ rfl (by decide) sh_0 rfl rfl dX8_mean_18 (fun Mc18 q_18 => ?_)
    have em0 : Mc18 103 0 = frA (mnS (vC M 0)) (mnT (vC M 0)) := by rw [q_18]; rfl
    have em1 : Mc18 103 1 = frB (mnS (vC M 0)) (mnT (vC M 0)) := by rw [q_18]; rfl
    have hE : eqx M Mc18 [100, 101, 102, 103, 104] := by rw [q_18]; exact eqx_up _ _ (eqx_up _ _ (eqx_rf _ _) (by decide)) (by decide)
    refine vv_iload_n X 1 rfl rfl dX8_mean_21 ?_
    refine vv_if_ne (tgt := 38) X (by omega) dX8_mean_22 (by decide) (fun c_22 => ?_) (fun c_22 => ?_)
    · skip
      refine vv_aload_n X 0 rfl rfl dX8_mean_38 ?_
      refine vv_getr (Nf := 9) (ref := (TX8 7).1) X (by decide) sh_90 rfl 7 (by decide) u_X8_mean_8 k_X8_mean_55 rfl rfl dX8_mean_39 ?_
      refine vv_geti (Nf := 2) (ref := (TX1 1).1) (z := (Mc18 103 1)) X (by decide) sh_103 rfl 1 (by decide) u_X8_mean_1 k_X8_mean_151 rfl rfl (rfl) dX8_mean_42 ?_
      exact vv_iret X hm (⟨⟨fun q => absurd hin q, fun q => by first | (exfalso; omega) | rw [em0], fun q => by first | (exfalso; omega) | exact em1⟩, hE⟩) dX8_mean_45
    · skip
      refine vv_aload_n X 0 rfl rfl dX8_mean_25 ?_
      refine vv_getr (Nf := 9) (ref := (TX8 7).1) X (by decide) sh_90 rfl 7 (by decide) u_X8_mean_8 k_X8_mean_55 rfl rfl dX8_mean_26 ?_
      refine vv_geti (Nf := 2) (ref := (TX1 0).1) (z := (Mc18 103 0)) X (by decide) sh_103 rfl 0 (by decide) u_X8_mean_1 k_X8_mean_146 rfl rfl (rfl) dX8_mean_29 ?_
      refine vv_ldc (n := 10000000) (v := 10000000) X (by decide +kernel) (by decide) dX8_mean_32 ?_
      refine vv_iadd X dX8_mean_34 ?_
      refine vv_goto (tgt := 45) X (by decide) dX8_mean_35 ?_
      exact vv_iret X hm (⟨⟨fun q => absurd hin q, fun q => by first | (exfalso; omega) | rw [em0], fun q => by first | (exfalso; omega) | exact em1⟩, hE⟩) dX8_mean_45
  · skip
    have hin : ¬ (w = 0 ∨ w = 1) := fun q => by rw [if_pos q] at e_z1; omega
    refine vv_bipush (n := (-2)) X (by decide) dX8_mean_7 ?_
    exact vv_iret X hm (⟨⟨fun _ => rfl, fun q => by first | (exfalso; omega) | omega, fun q => by first | (exfalso; omega) | omega⟩, eqx_rf _ _⟩) dX8_mean_9
theorem u_X8_worth_1 : ∀ w ∈ u_ws RX1 TX1 2, w ∈ wsX8_worth := by decide +kernel
theorem u_X8_worth_7 : ∀ w ∈ u_ws RX7 TX7 3, w ∈ wsX8_worth := by decide +kernel
theorem u_X8_worth_8 : ∀ w ∈ u_ws RX8 TX8 9, w ∈ wsX8_worth := by decide +kernel
theorem k_X8_worth_10 : Cond.fieldLink yX8_worth.cls 10 (TX8 0).1 (TX8 0).2.1 (TX8 0).2.2.1 ∈ wsX8_worth := by decide +kernel
theorem k_X8_worth_55 : Cond.fieldLink yX8_worth.cls 55 (TX8 7).1 (TX8 7).2.1 (TX8 7).2.2.1 ∈ wsX8_worth := by decide +kernel
theorem k_X8_worth_73 : Cond.fieldLink yX8_worth.cls 73 (TX7 0).1 (TX7 0).2.1 (TX7 0).2.2.1 ∈ wsX8_worth := by decide +kernel
theorem k_X8_worth_146 : Cond.fieldLink yX8_worth.cls 146 (TX1 0).1 (TX1 0).2.1 (TX1 0).2.2.1 ∈ wsX8_worth := by decide +kernel
theorem k_X8_worth_151 : Cond.fieldLink yX8_worth.cls 151 (TX1 1).1 (TX1 1).2.1 (TX1 1).2.2.1 ∈ wsX8_worth := by decide +kernel
set_option maxRecDepth 100000 in
set_option maxHeartbeats 4000000 in
theorem c_X8_worth (l : Launch) (D : va_G) {ad : Nat → Nat} (cA : Nat → ClassId) (had : adok ad) (M : Mem) (r w : Int) (hr : -2147483648 ≤ r ∧ r ≤ 2147483647) (hw : -2147483648 ≤ w ∧ w ≤ 2147483647) (hw : WF (vC M 0)) : CtI l yX8_worth wsX8_worth 4 93 D ad cA [.ref (ad 90), .int (zI r), .int (zI w)] M (fun z M1 => qWor r w (vC M 0) z ∧ eqx M M1 [100, 101, 102, 103, 104]) := by
  refine CtI.of (cc := cX8_worth) (maxL := 3) (ret := (some .int)) had (by decide) rfl (Nat.le_of_ble_eq_true rfl) ?_
  intro p e s m args below meth c X hm
  show VV p l e { frames := 4, cells := 0, slots := 0, locals := 93 } s m args below meth c 3 D ad cA (Afr ad s.heap.size) 0 0 (QI below args s D ad cA (fun z M1 => qWor r w (vC M 0) z ∧ eqx M M1 [100, 101, 102, 103, 104])) M 0 [(0, .ref (ad 90)), (1, .int (zI r)), (2, .int (zI w))] []
  have hsm : 1 ≤ M 6 2 ∧ M 6 2 ≤ 6 := WFs_pos hw.2.2
  have hwb : ∀ k : Nat, (k : Int) < M 6 2 → (1 ≤ M 7 k ∧ M 7 k ≤ 999) ∧ (0 ≤ M 8 k ∧ M 8 k ≤ 100) := fun k hk => WFs_b hw.2.2 hk
  have hW : cWR M := hw.2.1
  have hn5 : 0 ≤ M 1 4 ∧ M 1 4 ≤ 5 := by
    have q1 := hW.2.1
    have q2 := hW.1
    omega
  have hp9 : 1 ≤ M 0 2 ∧ M 0 2 ≤ 99 := hw.1
  refine vv_aload_n X 0 rfl rfl dX8_worth_0 ?_
  refine vv_getr (Nf := 9) (ref := (TX8 0).1) X (by decide) sh_90 rfl 0 (by decide) u_X8_worth_8 k_X8_worth_10 rfl rfl dX8_worth_1 ?_
  refine vv_getr (Nf := 3) (ref := (TX7 0).1) X (by decide) sh_0 rfl 0 (by decide) u_X8_worth_7 k_X8_worth_73 rfl rfl dX8_worth_4 ?_
  refine vv_iload_n X 1 rfl rfl dX8_worth_7 ?_
  refine vv_callVI (As := [.int (zI r)]) (st := []) (Nf := 5) X 1 (c_X5_has l D cA had M r (by omega) (by omega)) gX8_worth_X5_has rfl (by decide +kernel) ⟨by decide, by decide⟩ (Nat.le_of_ble_eq_true rfl) ⟨by decide, by decide⟩ rfl (by decide) sh_1 rfl rfl dX8_worth_8 (fun z8 Mc8 q_8 => ?_)
  obtain ⟨e_z8, g_z8⟩ := q_8
  have g_z8 := g_z8.symm
  subst g_z8
  refine vv_if_ne (tgt := 16) X (by rw [e_z8]; split <;> omega) dX8_worth_11 (by decide) (fun c_11 => ?_) (fun c_11 => ?_)
  · skip
    have hin : 0 ≤ r ∧ r < M 1 4 := Classical.byContradiction fun q => by rw [if_neg q] at e_z8; omega
    refine vv_iload_n X 2 rfl rfl dX8_worth_16 ?_
    refine vv_callSI (As := [.int (zI w)]) (st := []) X 1 (c_X8_isHalfOfFraction l D cA had M w (by omega)) gX8_worth_X8_isHalfOfFraction rfl (by decide +kernel) ⟨by decide, by decide⟩ (Nat.le_of_ble_eq_true rfl) ⟨by decide, by decide⟩ rfl rfl dX8_worth_17 (fun z17 Mc17 q_17 => ?_)
    obtain ⟨e_z17, g_z17⟩ := q_17
    have g_z17 := g_z17.symm
    subst g_z17
    refine vv_if_ne (tgt := 26) X (by rw [e_z17]; split <;> omega) dX8_worth_20 (by decide) (fun c_20 => ?_) (fun c_20 => ?_)
    · skip
      have hin2 : w = 0 ∨ w = 1 := Classical.byContradiction fun q => by rw [if_neg q] at e_z17; omega
      refine vv_aload_n X 0 rfl rfl dX8_worth_26 ?_
      refine vv_getr (Nf := 9) (ref := (TX8 0).1) X (by decide) sh_90 rfl 0 (by decide) u_X8_worth_8 k_X8_worth_10 rfl rfl dX8_worth_27 ?_
      refine vv_iload_n X 1 rfl rfl dX8_worth_30 ?_
      refine vv_aload_n X 0 rfl rfl dX8_worth_31 ?_
      refine vv_getr (Nf := 9) (ref := (TX8 7).1) X (by decide) sh_90 rfl 7 (by decide) u_X8_worth_8 k_X8_worth_55 rfl rfl dX8_worth_32 ?_
      refine vv_callVV (As := [.int (zI r), .ref (ad 103)]) (st := []) (Nf := 3) X 2 (c_X7_tellMeanWorth l D cA had M r (by omega) (by omega) (by assumption) (by assumption)) gX8_worth_X7_tellMeanWorth rfl (by decide +kernel) ⟨by decide, by decide⟩ (Nat.le_of_ble_eq_true rfl) ⟨by decide, by decide⟩ rfl (by decide) sh_0 rfl rfl dX8_worth_35 (fun Mc35 q_35 => ?_)
      have em0 : Mc35 103 0 = frA (woS (vC M 0) r.toNat) (mnT (vC M 0) * 100) := by rw [q_35]; rfl
      have em1 : Mc35 103 1 = frB (woS (vC M 0) r.toNat) (mnT (vC M 0) * 100) := by rw [q_35]; rfl
      have hE : eqx M Mc35 [100, 101, 102, 103, 104] := by rw [q_35]; exact eqx_up _ _ (eqx_up _ _ (eqx_rf _ _) (by decide)) (by decide)
      refine vv_iload_n X 2 rfl rfl dX8_worth_38 ?_
      refine vv_if_ne (tgt := 52) X (by omega) dX8_worth_39 (by decide) (fun c_39 => ?_) (fun c_39 => ?_)
      · skip
        refine vv_aload_n X 0 rfl rfl dX8_worth_52 ?_
        refine vv_getr (Nf := 9) (ref := (TX8 7).1) X (by decide) sh_90 rfl 7 (by decide) u_X8_worth_8 k_X8_worth_55 rfl rfl dX8_worth_53 ?_
        refine vv_geti (Nf := 2) (ref := (TX1 1).1) (z := (Mc35 103 1)) X (by decide) sh_103 rfl 1 (by decide) u_X8_worth_1 k_X8_worth_151 rfl rfl (rfl) dX8_worth_56 ?_
        exact vv_iret X hm (⟨⟨fun q => absurd hin q, fun _ => ⟨fun q => absurd hin2 q, fun q => by first | (exfalso; omega) | exact em0, fun q => by first | (exfalso; omega) | exact em1⟩⟩, hE⟩) dX8_worth_59
      · skip
        refine vv_aload_n X 0 rfl rfl dX8_worth_42 ?_
        refine vv_getr (Nf := 9) (ref := (TX8 7).1) X (by decide) sh_90 rfl 7 (by decide) u_X8_worth_8 k_X8_worth_55 rfl rfl dX8_worth_43 ?_
        refine vv_geti (Nf := 2) (ref := (TX1 0).1) (z := (Mc35 103 0)) X (by decide) sh_103 rfl 0 (by decide) u_X8_worth_1 k_X8_worth_146 rfl rfl (rfl) dX8_worth_46 ?_
        refine vv_goto (tgt := 59) X (by decide) dX8_worth_49 ?_
        exact vv_iret X hm (⟨⟨fun q => absurd hin q, fun _ => ⟨fun q => absurd hin2 q, fun q => by first | (exfalso; omega) | exact em0, fun q => by first | (exfalso; omega) | exact em1⟩⟩, hE⟩) dX8_worth_59
    · skip
      have hin2 : ¬ (w = 0 ∨ w = 1) := fun q => by rw [if_pos q] at e_z17; omega
      refine vv_bipush (n := (-2)) X (by decide) dX8_worth_23 ?_
      exact vv_iret X hm (⟨⟨fun q => absurd hin q, fun _ => ⟨fun _ => rfl, fun q => by first | (exfalso; omega) | omega, fun q => by first | (exfalso; omega) | omega⟩⟩, eqx_rf _ _⟩) dX8_worth_25
  · skip
    have hin : ¬ (0 ≤ r ∧ r < M 1 4) := fun q => by rw [if_pos q] at e_z8; omega
    refine vv_iconst (n := (-1)) X dX8_worth_14 ?_
    exact vv_iret X hm (⟨⟨fun _ => rfl, fun q => absurd q hin⟩, eqx_rf _ _⟩) dX8_worth_15
theorem u_X8_meanIsEnvelope_1 : ∀ w ∈ u_ws RX1 TX1 2, w ∈ wsX8_meanIsEnvelope := by decide +kernel
theorem u_X8_meanIsEnvelope_7 : ∀ w ∈ u_ws RX7 TX7 3, w ∈ wsX8_meanIsEnvelope := by decide +kernel
theorem u_X8_meanIsEnvelope_8 : ∀ w ∈ u_ws RX8 TX8 9, w ∈ wsX8_meanIsEnvelope := by decide +kernel
theorem k_X8_meanIsEnvelope_10 : Cond.fieldLink yX8_meanIsEnvelope.cls 10 (TX8 0).1 (TX8 0).2.1 (TX8 0).2.2.1 ∈ wsX8_meanIsEnvelope := by decide +kernel
theorem k_X8_meanIsEnvelope_48 : Cond.fieldLink yX8_meanIsEnvelope.cls 48 (TX8 6).1 (TX8 6).2.1 (TX8 6).2.2.1 ∈ wsX8_meanIsEnvelope := by decide +kernel
theorem k_X8_meanIsEnvelope_55 : Cond.fieldLink yX8_meanIsEnvelope.cls 55 (TX8 7).1 (TX8 7).2.1 (TX8 7).2.2.1 ∈ wsX8_meanIsEnvelope := by decide +kernel
theorem k_X8_meanIsEnvelope_59 : Cond.fieldLink yX8_meanIsEnvelope.cls 59 (TX8 8).1 (TX8 8).2.1 (TX8 8).2.2.1 ∈ wsX8_meanIsEnvelope := by decide +kernel
theorem k_X8_meanIsEnvelope_146 : Cond.fieldLink yX8_meanIsEnvelope.cls 146 (TX1 0).1 (TX1 0).2.1 (TX1 0).2.2.1 ∈ wsX8_meanIsEnvelope := by decide +kernel
theorem k_X8_meanIsEnvelope_151 : Cond.fieldLink yX8_meanIsEnvelope.cls 151 (TX1 1).1 (TX1 1).2.1 (TX1 1).2.2.1 ∈ wsX8_meanIsEnvelope := by decide +kernel
theorem k_X8_meanIsEnvelope_158 : Cond.fieldLink yX8_meanIsEnvelope.cls 158 (TX7 2).1 (TX7 2).2.1 (TX7 2).2.2.1 ∈ wsX8_meanIsEnvelope := by decide +kernel
set_option maxRecDepth 100000 in
set_option maxHeartbeats 4000000 in
theorem c_X8_meanIsEnvelope (l : Launch) (D : va_G) {ad : Nat → Nat} (cA : Nat → ClassId) (had : adok ad) (M : Mem) (hw : WF (vC M 0)) : CtI l yX8_meanIsEnvelope wsX8_meanIsEnvelope 4 92 D ad cA [.ref (ad 90)] M (fun z M1 => (∃ lo hi : Int, isB (vA (vC M 0)) (vC M 0).1 lo hi ∧ z = if frA (mnS (vC M 0)) (mnT (vC M 0)) = frA (sN (vA (vC M 0)) (vC M 0).1 lo hi) (sD lo hi) ∧ frB (mnS (vC M 0)) (mnT (vC M 0)) = frB (sN (vA (vC M 0)) (vC M 0).1 lo hi) (sD lo hi) then 1 else 0) ∧ eqx M M1 [100, 101, 102, 103, 104]) := by
  refine CtI.of (cc := cX8_meanIsEnvelope) (maxL := 1) (ret := (some .boolean)) had (by decide) rfl (Nat.le_of_ble_eq_true rfl) ?_
  intro p e s m args below meth c X hm
  show VV p l e { frames := 4, cells := 0, slots := 0, locals := 92 } s m args below meth c 1 D ad cA (Afr ad s.heap.size) 0 0 (QI below args s D ad cA (fun z M1 => (∃ lo hi : Int, isB (vA (vC M 0)) (vC M 0).1 lo hi ∧ z = if frA (mnS (vC M 0)) (mnT (vC M 0)) = frA (sN (vA (vC M 0)) (vC M 0).1 lo hi) (sD lo hi) ∧ frB (mnS (vC M 0)) (mnT (vC M 0)) = frB (sN (vA (vC M 0)) (vC M 0).1 lo hi) (sD lo hi) then 1 else 0) ∧ eqx M M1 [100, 101, 102, 103, 104])) M 0 [(0, .ref (ad 90))] []
  have hsm : 1 ≤ M 6 2 ∧ M 6 2 ≤ 6 := WFs_pos hw.2.2
  have hwb : ∀ k : Nat, (k : Int) < M 6 2 → (1 ≤ M 7 k ∧ M 7 k ≤ 999) ∧ (0 ≤ M 8 k ∧ M 8 k ≤ 100) := fun k hk => WFs_b hw.2.2 hk
  have hW : cWR M := hw.2.1
  have hn5 : 0 ≤ M 1 4 ∧ M 1 4 ≤ 5 := by
    have q1 := hW.2.1
    have q2 := hW.1
    omega
  have hp9 : 1 ≤ M 0 2 ∧ M 0 2 ≤ 99 := hw.1
  refine vv_aload_n X 0 rfl rfl dX8_meanIsEnvelope_0 ?_
  refine vv_getr (Nf := 9) (ref := (TX8 0).1) X (by decide) sh_90 rfl 0 (by decide) u_X8_meanIsEnvelope_8 k_X8_meanIsEnvelope_10 rfl rfl dX8_meanIsEnvelope_1 ?_
  refine vv_aload_n X 0 rfl rfl dX8_meanIsEnvelope_4 ?_
  refine vv_getr (Nf := 9) (ref := (TX8 7).1) X (by decide) sh_90 rfl 7 (by decide) u_X8_meanIsEnvelope_8 k_X8_meanIsEnvelope_55 rfl rfl dX8_meanIsEnvelope_5 ?_
  refine vv_callVV (As := [.ref (ad 103)]) (st := []) (Nf := 3) X 1 (c_X7_tellMeanValue l D cA had M (by omega) (by assumption) (by assumption)) gX8_meanIsEnvelope_X7_tellMeanValue rfl (by decide +kernel) ⟨by decide, by decide⟩ (Nat.le_of_ble_eq_true rfl) ⟨by decide, by decide⟩ rfl (by decide) sh_0 rfl rfl dX8_meanIsEnvelope_8 (fun Mc8 q_8 => ?_)
  have em0 : Mc8 103 0 = frA (mnS (vC M 0)) (mnT (vC M 0)) := by rw [q_8]; rfl
  have em1 : Mc8 103 1 = frB (mnS (vC M 0)) (mnT (vC M 0)) := by rw [q_8]; rfl
  have hE8 : eqx M Mc8 [100, 101, 102, 103, 104] := by rw [q_8]; exact eqx_up _ _ (eqx_up _ _ (eqx_rf _ _) (by decide)) (by decide)
  have hW8 : cWR Mc8 := by rw [q_8]; exact hW
  have ec8 : cvl Mc8 = vA (vC M 0) := by rw [q_8]; rfl
  have e08 : Mc8 0 2 = M 0 2 := by rw [q_8]; rfl
  refine vv_aload_n X 0 rfl rfl dX8_meanIsEnvelope_11 ?_
  refine vv_aload_n X 0 rfl rfl dX8_meanIsEnvelope_12 ?_
  refine vv_getr (Nf := 9) (ref := (TX8 0).1) X (by decide) sh_90 rfl 0 (by decide) u_X8_meanIsEnvelope_8 k_X8_meanIsEnvelope_10 rfl rfl dX8_meanIsEnvelope_13 ?_
  refine vv_geti (Nf := 3) (ref := (TX7 2).1) (z := (Mc8 0 2)) X (by decide) sh_0 rfl 2 (by decide) u_X8_meanIsEnvelope_7 k_X8_meanIsEnvelope_158 rfl rfl (rfl) dX8_meanIsEnvelope_16 ?_
  refine vv_callVV (As := [.int (zI (Mc8 0 2))]) (st := []) (Nf := 9) X 1 (c_X8_aimAt l D cA had Mc8 (Mc8 0 2) (by omega) (by assumption)) gX8_meanIsEnvelope_X8_aimAt rfl (by decide +kernel) ⟨by decide, by decide⟩ (Nat.le_of_ble_eq_true rfl) ⟨by decide, by decide⟩ rfl (by decide) sh_90 rfl rfl dX8_meanIsEnvelope_19 (fun Mc19 q_19 => ?_)
  obtain ⟨E19, V19, B19, L19, U19⟩ := q_19
  have e_Mc19_0 : Mc19 0 = Mc8 0 := (E19 0 (by decide)).trans (show Mc8 0 = Mc8 0 from rfl)
  have e_Mc19_1 : Mc19 1 = Mc8 1 := (E19 1 (by decide)).trans (show Mc8 1 = Mc8 1 from rfl)
  have e_Mc19_2 : Mc19 2 = Mc8 2 := (E19 2 (by decide)).trans (show Mc8 2 = Mc8 2 from rfl)
  have e_Mc19_3 : Mc19 3 = Mc8 3 := (E19 3 (by decide)).trans (show Mc8 3 = Mc8 3 from rfl)
  have e_Mc19_4 : Mc19 4 = Mc8 4 := (E19 4 (by decide)).trans (show Mc8 4 = Mc8 4 from rfl)
  have e_Mc19_5 : Mc19 5 = Mc8 5 := (E19 5 (by decide)).trans (show Mc8 5 = Mc8 5 from rfl)
  have e_Mc19_6 : Mc19 6 = Mc8 6 := (E19 6 (by decide)).trans (show Mc8 6 = Mc8 6 from rfl)
  have e_Mc19_7 : Mc19 7 = Mc8 7 := (E19 7 (by decide)).trans (show Mc8 7 = Mc8 7 from rfl)
  have e_Mc19_8 : Mc19 8 = Mc8 8 := (E19 8 (by decide)).trans (show Mc8 8 = Mc8 8 from rfl)
  have e_Mc19_99 : Mc19 99 = Mc8 99 := (E19 99 (by decide)).trans (show Mc8 99 = Mc8 99 from rfl)
  have e_Mc19_103 : Mc19 103 = Mc8 103 := (E19 103 (by decide)).trans (show Mc8 103 = Mc8 103 from rfl)
  have e_Mc19_104 : Mc19 104 = Mc8 104 := (E19 104 (by decide)).trans (show Mc8 104 = Mc8 104 from rfl)
  obtain ⟨cr, cw, cp, cv, cN, cD, cx⟩ := cu_f (M := Mc8) (by first | exact hW | exact hW8) (show 0 ≤ Mc8 0 2 ∧ Mc8 0 2 ≤ 100 by omega) V19 B19 L19 U19
  have hBv : isB (vA (vC M 0)) (vC M 0).1 (Mc19 100 3) (Mc19 100 4) := by
    have q := B19
    rw [ec8, e08] at q
    exact q
  rw [ec8, e08] at cN
  rw [e08] at cD
  have fe := fr_env (v := vA (vC M 0)) hBv.1
  have f1 : frA (Mc19 100 5 * Mc19 101 (Mc19 100 3).toNat + Mc19 100 6 * Mc19 101 (Mc19 100 4).toNat) (Mc19 100 5 + Mc19 100 6) = frA (sN (vA (vC M 0)) (vC M 0).1 (Mc19 100 3) (Mc19 100 4)) (sD (Mc19 100 3) (Mc19 100 4)) := by rw [cN, cD]; exact fe.1
  have f2 : frB (Mc19 100 5 * Mc19 101 (Mc19 100 3).toNat + Mc19 100 6 * Mc19 101 (Mc19 100 4).toNat) (Mc19 100 5 + Mc19 100 6) = frB (sN (vA (vC M 0)) (vC M 0).1 (Mc19 100 3) (Mc19 100 4)) (sD (Mc19 100 3) (Mc19 100 4)) := by rw [cN, cD]; exact fe.2
  refine vv_aload_n X 0 rfl rfl dX8_meanIsEnvelope_22 ?_
  refine vv_getr (Nf := 9) (ref := (TX8 6).1) X (by decide) sh_90 rfl 6 (by decide) u_X8_meanIsEnvelope_8 k_X8_meanIsEnvelope_48 rfl rfl dX8_meanIsEnvelope_23 ?_
  refine vv_aload_n X 0 rfl rfl dX8_meanIsEnvelope_26 ?_
  refine vv_getr (Nf := 9) (ref := (TX8 8).1) X (by decide) sh_90 rfl 8 (by decide) u_X8_meanIsEnvelope_8 k_X8_meanIsEnvelope_59 rfl rfl dX8_meanIsEnvelope_27 ?_
  refine vv_callVV (As := [.ref (ad 104)]) (st := []) (Nf := 7) X 1 (c_X0_tellEnvelope_104 l D cA had Mc19 (cr.1) (cr.2) (cw.1) (cw.2) (cp) (cv)) gX8_meanIsEnvelope_X0_tellEnvelope rfl (by decide +kernel) ⟨by decide, by decide⟩ (Nat.le_of_ble_eq_true rfl) ⟨by decide, by decide⟩ rfl (by decide) sh_100 rfl rfl dX8_meanIsEnvelope_30 (fun Mc30 q_30 => ?_)
  have hE : eqx M Mc30 [100, 101, 102, 103, 104] := by
    rw [q_30]
    exact eqx_up _ _ (eqx_up _ _ (eqx_tr hE8 (eqx_mono E19 (by decide))) (by decide)) (by decide)
  have g0 : Mc30 103 = Mc8 103 := by rw [q_30, up2_n _ _ _ (by decide), up2_n _ _ _ (by decide), E19 103 (by decide)]
  have g1 : Mc30 104 0 = frA (sN (vA (vC M 0)) (vC M 0).1 (Mc19 100 3) (Mc19 100 4)) (sD (Mc19 100 3) (Mc19 100 4)) := by rw [q_30, up2_m _ _ _ (by decide), up2_s]; exact f1
  have g2 : Mc30 104 1 = frB (sN (vA (vC M 0)) (vC M 0).1 (Mc19 100 3) (Mc19 100 4)) (sD (Mc19 100 3) (Mc19 100 4)) := by rw [q_30, up2_s]; exact f2
  have g3 : Mc30 103 0 = frA (mnS (vC M 0)) (mnT (vC M 0)) := by rw [g0]; exact em0
  have g4 : Mc30 103 1 = frB (mnS (vC M 0)) (mnT (vC M 0)) := by rw [g0]; exact em1
  have b1 := fr_b (a := mnS (vC M 0)) (b := mnT (vC M 0)) (A := 1073741824) (by have := mn_b hw; omega) (by have := mn_b hw; omega)
  have b2 := fr_b (a := sN (vA (vC M 0)) (vC M 0).1 (Mc19 100 3) (Mc19 100 4)) (b := sD (Mc19 100 3) (Mc19 100 4)) (A := 198000) (sN_b (fun y => vl_b hW.2) (by have : (vC M 0).1 = M 0 2 := rfl; omega) hBv.1) (sD_pos hBv.1)
  have b3 := mn_b hw
  have b4 := sD_b (by have : (vC M 0).1 = M 0 2 := rfl; omega) hBv.1
  refine vv_aload_n X 0 rfl rfl dX8_meanIsEnvelope_33 ?_
  refine vv_getr (Nf := 9) (ref := (TX8 7).1) X (by decide) sh_90 rfl 7 (by decide) u_X8_meanIsEnvelope_8 k_X8_meanIsEnvelope_55 rfl rfl dX8_meanIsEnvelope_34 ?_
  refine vv_geti (Nf := 2) (ref := (TX1 0).1) (z := (Mc30 103 0)) X (by decide) sh_103 rfl 0 (by decide) u_X8_meanIsEnvelope_1 k_X8_meanIsEnvelope_146 rfl rfl (rfl) dX8_meanIsEnvelope_37 ?_
  refine vv_aload_n X 0 rfl rfl dX8_meanIsEnvelope_40 ?_
  refine vv_getr (Nf := 9) (ref := (TX8 8).1) X (by decide) sh_90 rfl 8 (by decide) u_X8_meanIsEnvelope_8 k_X8_meanIsEnvelope_59 rfl rfl dX8_meanIsEnvelope_41 ?_
  refine vv_geti (Nf := 2) (ref := (TX1 0).1) (z := (Mc30 104 0)) X (by decide) sh_104 rfl 0 (by decide) u_X8_meanIsEnvelope_1 k_X8_meanIsEnvelope_146 rfl rfl (rfl) dX8_meanIsEnvelope_44 ?_
  refine vv_icmp_ne (tgt := 71) X (by omega) (by omega) dX8_meanIsEnvelope_47 (by decide) (fun c_47 => ?_) (fun c_47 => ?_)
  · skip
    refine vv_iconst (n := 0) X dX8_meanIsEnvelope_71 ?_
    exact vv_zret X hm (by omega) (⟨⟨Mc19 100 3, Mc19 100 4, hBv, by
      first
      | rw [if_pos ⟨by omega, by omega⟩]
      | rw [if_neg (fun q => by have q1 := q.1; have q2 := q.2; omega)]⟩, hE⟩) dX8_meanIsEnvelope_72
  · skip
    refine vv_aload_n X 0 rfl rfl dX8_meanIsEnvelope_50 ?_
    refine vv_getr (Nf := 9) (ref := (TX8 7).1) X (by decide) sh_90 rfl 7 (by decide) u_X8_meanIsEnvelope_8 k_X8_meanIsEnvelope_55 rfl rfl dX8_meanIsEnvelope_51 ?_
    refine vv_geti (Nf := 2) (ref := (TX1 1).1) (z := (Mc30 103 1)) X (by decide) sh_103 rfl 1 (by decide) u_X8_meanIsEnvelope_1 k_X8_meanIsEnvelope_151 rfl rfl (rfl) dX8_meanIsEnvelope_54 ?_
    refine vv_aload_n X 0 rfl rfl dX8_meanIsEnvelope_57 ?_
    refine vv_getr (Nf := 9) (ref := (TX8 8).1) X (by decide) sh_90 rfl 8 (by decide) u_X8_meanIsEnvelope_8 k_X8_meanIsEnvelope_59 rfl rfl dX8_meanIsEnvelope_58 ?_
    refine vv_geti (Nf := 2) (ref := (TX1 1).1) (z := (Mc30 104 1)) X (by decide) sh_104 rfl 1 (by decide) u_X8_meanIsEnvelope_1 k_X8_meanIsEnvelope_151 rfl rfl (rfl) dX8_meanIsEnvelope_61 ?_
    refine vv_icmp_ne (tgt := 71) X (by omega) (by omega) dX8_meanIsEnvelope_64 (by decide) (fun c_64 => ?_) (fun c_64 => ?_)
    · skip
      refine vv_iconst (n := 0) X dX8_meanIsEnvelope_71 ?_
      exact vv_zret X hm (by omega) (⟨⟨Mc19 100 3, Mc19 100 4, hBv, by
        first
        | rw [if_pos ⟨by omega, by omega⟩]
        | rw [if_neg (fun q => by have q1 := q.1; have q2 := q.2; omega)]⟩, hE⟩) dX8_meanIsEnvelope_72
    · skip
      refine vv_iconst (n := 1) X dX8_meanIsEnvelope_67 ?_
      refine vv_goto (tgt := 72) X (by decide) dX8_meanIsEnvelope_68 ?_
      exact vv_zret X hm (by omega) (⟨⟨Mc19 100 3, Mc19 100 4, hBv, by
        first
        | rw [if_pos ⟨by omega, by omega⟩]
        | rw [if_neg (fun q => by have q1 := q.1; have q2 := q.2; omega)]⟩, hE⟩) dX8_meanIsEnvelope_72
theorem u_X8_count_2 : ∀ w ∈ u_ws RX2 TX2 3, w ∈ wsX8_count := by decide +kernel
theorem u_X8_count_4 : ∀ w ∈ u_ws RX4 TX4 6, w ∈ wsX8_count := by decide +kernel
theorem u_X8_count_5 : ∀ w ∈ u_ws RX5 TX5 5, w ∈ wsX8_count := by decide +kernel
theorem u_X8_count_6 : ∀ w ∈ u_ws RX6 TX6 3, w ∈ wsX8_count := by decide +kernel
theorem u_X8_count_7 : ∀ w ∈ u_ws RX7 TX7 3, w ∈ wsX8_count := by decide +kernel
theorem u_X8_count_8 : ∀ w ∈ u_ws RX8 TX8 9, w ∈ wsX8_count := by decide +kernel
theorem k_X8_count_10 : Cond.fieldLink yX8_count.cls 10 (TX8 0).1 (TX8 0).2.1 (TX8 0).2.2.1 ∈ wsX8_count := by decide +kernel
theorem k_X8_count_19 : Cond.fieldLink yX8_count.cls 19 (TX8 1).1 (TX8 1).2.1 (TX8 1).2.2.1 ∈ wsX8_count := by decide +kernel
theorem k_X8_count_34 : Cond.fieldLink yX8_count.cls 34 (TX8 4).1 (TX8 4).2.1 (TX8 4).2.2.1 ∈ wsX8_count := by decide +kernel
theorem k_X8_count_73 : Cond.fieldLink yX8_count.cls 73 (TX7 0).1 (TX7 0).2.1 (TX7 0).2.2.1 ∈ wsX8_count := by decide +kernel
theorem k_X8_count_117 : Cond.fieldLink yX8_count.cls 117 (TX7 1).1 (TX7 1).2.1 (TX7 1).2.2.1 ∈ wsX8_count := by decide +kernel
theorem k_X8_count_158 : Cond.fieldLink yX8_count.cls 158 (TX7 2).1 (TX7 2).2.1 (TX7 2).2.2.1 ∈ wsX8_count := by decide +kernel
theorem k_X8_count_161 : Cond.fieldLink yX8_count.cls 161 (TX5 4).1 (TX5 4).2.1 (TX5 4).2.2.1 ∈ wsX8_count := by decide +kernel
theorem k_X8_count_164 : Cond.fieldLink yX8_count.cls 164 (TX6 2).1 (TX6 2).2.1 (TX6 2).2.2.1 ∈ wsX8_count := by decide +kernel
theorem k_X8_count_174 : Cond.fieldLink yX8_count.cls 174 (TX4 2).1 (TX4 2).2.1 (TX4 2).2.2.1 ∈ wsX8_count := by decide +kernel
theorem k_X8_count_177 : Cond.fieldLink yX8_count.cls 177 (TX2 2).1 (TX2 2).2.1 (TX2 2).2.2.1 ∈ wsX8_count := by decide +kernel
set_option maxRecDepth 100000 in
set_option maxHeartbeats 4000000 in
theorem c_X8_count (l : Launch) (D : va_G) {ad : Nat → Nat} (cA : Nat → ClassId) (had : adok ad) (M : Mem) (w : Int) (hw : -2147483648 ≤ w ∧ w ≤ 2147483647) (hw : WF (vC M 0)) : CtI l yX8_count wsX8_count 5 112 D ad cA [.ref (ad 90), .int (zI w)] M (fun z M1 => qCnt w (vC M 0) z ∧ (w = 5 → z = M 95 2) ∧ (w = 6 → z = M 91 2) ∧ eqx M M1 [100, 101, 102, 103, 104]) := by
  refine CtI.of (cc := cX8_count) (maxL := 2) (ret := (some .int)) had (by decide) rfl (Nat.le_of_ble_eq_true rfl) ?_
  intro p e s m args below meth c X hm
  show VV p l e { frames := 5, cells := 0, slots := 0, locals := 112 } s m args below meth c 2 D ad cA (Afr ad s.heap.size) 0 0 (QI below args s D ad cA (fun z M1 => qCnt w (vC M 0) z ∧ (w = 5 → z = M 95 2) ∧ (w = 6 → z = M 91 2) ∧ eqx M M1 [100, 101, 102, 103, 104])) M 0 [(0, .ref (ad 90)), (1, .int (zI w))] []
  have hsm : 1 ≤ M 6 2 ∧ M 6 2 ≤ 6 := WFs_pos hw.2.2
  have hwb : ∀ k : Nat, (k : Int) < M 6 2 → (1 ≤ M 7 k ∧ M 7 k ≤ 999) ∧ (0 ≤ M 8 k ∧ M 8 k ≤ 100) := fun k hk => WFs_b hw.2.2 hk
  have hW : cWR M := hw.2.1
  have hn5 : 0 ≤ M 1 4 ∧ M 1 4 ≤ 5 := by
    have q1 := hW.2.1
    have q2 := hW.1
    omega
  have hp9 : 1 ≤ M 0 2 ∧ M 0 2 ≤ 99 := hw.1
  refine vv_iload_n X 1 rfl rfl dX8_count_0 ?_
  by_cases c_1 : w < 0 ∨ 6 < w
  · skip
    refine vv_tabOut (tgt := 114) X (by omega) dX8_count_1 c_1 (by decide) ?_
    refine vv_bipush (n := (-2)) X (by decide) dX8_count_114 ?_
    exact vv_iret X hm (⟨⟨fun q => by first | (exfalso; omega) | rfl, fun q => by first | (exfalso; omega) | rfl, fun q => by first | (exfalso; omega) | rfl, fun q => by first | (exfalso; omega) | exact e_z81, fun q => by first | (exfalso; omega) | rfl, fun q => by first | (exfalso; omega) | rfl⟩, fun q => by first | (exfalso; omega) | rfl, fun q => by first | (exfalso; omega) | rfl, eqx_rf _ _⟩) dX8_count_116
  by_cases c_1_0 : w = 0
  · skip
    refine vv_tabIn (tgt := 44) (off := 43) X (by omega) dX8_count_1 (by omega) (by omega) (by rw [c_1_0]; rfl) (by decide) ?_
    refine vv_aload_n X 0 rfl rfl dX8_count_44 ?_
    refine vv_getr (Nf := 9) (ref := (TX8 0).1) X (by decide) sh_90 rfl 0 (by decide) u_X8_count_8 k_X8_count_10 rfl rfl dX8_count_45 ?_
    refine vv_geti (Nf := 3) (ref := (TX7 2).1) (z := (M 0 2)) X (by decide) sh_0 rfl 2 (by decide) u_X8_count_7 k_X8_count_158 rfl rfl (rfl) dX8_count_48 ?_
    exact vv_iret X hm (⟨⟨fun q => by first | (exfalso; omega) | rfl, fun q => by first | (exfalso; omega) | rfl, fun q => by first | (exfalso; omega) | rfl, fun q => by first | (exfalso; omega) | exact e_z81, fun q => by first | (exfalso; omega) | rfl, fun q => by first | (exfalso; omega) | rfl⟩, fun q => by first | (exfalso; omega) | rfl, fun q => by first | (exfalso; omega) | rfl, eqx_rf _ _⟩) dX8_count_51
  by_cases c_1_1 : w = 1
  · skip
    refine vv_tabIn (tgt := 52) (off := 51) X (by omega) dX8_count_1 (by omega) (by omega) (by rw [c_1_1]; rfl) (by decide) ?_
    refine vv_aload_n X 0 rfl rfl dX8_count_52 ?_
    refine vv_getr (Nf := 9) (ref := (TX8 0).1) X (by decide) sh_90 rfl 0 (by decide) u_X8_count_8 k_X8_count_10 rfl rfl dX8_count_53 ?_
    refine vv_getr (Nf := 3) (ref := (TX7 0).1) X (by decide) sh_0 rfl 0 (by decide) u_X8_count_7 k_X8_count_73 rfl rfl dX8_count_56 ?_
    refine vv_geti (Nf := 5) (ref := (TX5 4).1) (z := (M 1 4)) X (by decide) sh_1 rfl 4 (by decide) u_X8_count_5 k_X8_count_161 rfl rfl (rfl) dX8_count_59 ?_
    exact vv_iret X hm (⟨⟨fun q => by first | (exfalso; omega) | rfl, fun q => by first | (exfalso; omega) | rfl, fun q => by first | (exfalso; omega) | rfl, fun q => by first | (exfalso; omega) | exact e_z81, fun q => by first | (exfalso; omega) | rfl, fun q => by first | (exfalso; omega) | rfl⟩, fun q => by first | (exfalso; omega) | rfl, fun q => by first | (exfalso; omega) | rfl, eqx_rf _ _⟩) dX8_count_62
  by_cases c_1_2 : w = 2
  · skip
    refine vv_tabIn (tgt := 63) (off := 62) X (by omega) dX8_count_1 (by omega) (by omega) (by rw [c_1_2]; rfl) (by decide) ?_
    refine vv_aload_n X 0 rfl rfl dX8_count_63 ?_
    refine vv_getr (Nf := 9) (ref := (TX8 0).1) X (by decide) sh_90 rfl 0 (by decide) u_X8_count_8 k_X8_count_10 rfl rfl dX8_count_64 ?_
    refine vv_getr (Nf := 3) (ref := (TX7 1).1) X (by decide) sh_0 rfl 1 (by decide) u_X8_count_7 k_X8_count_117 rfl rfl dX8_count_67 ?_
    refine vv_geti (Nf := 3) (ref := (TX6 2).1) (z := (M 6 2)) X (by decide) sh_6 rfl 2 (by decide) u_X8_count_6 k_X8_count_164 rfl rfl (rfl) dX8_count_70 ?_
    exact vv_iret X hm (⟨⟨fun q => by first | (exfalso; omega) | rfl, fun q => by first | (exfalso; omega) | rfl, fun q => by first | (exfalso; omega) | rfl, fun q => by first | (exfalso; omega) | exact e_z81, fun q => by first | (exfalso; omega) | rfl, fun q => by first | (exfalso; omega) | rfl⟩, fun q => by first | (exfalso; omega) | rfl, fun q => by first | (exfalso; omega) | rfl, eqx_rf _ _⟩) dX8_count_73
  by_cases c_1_3 : w = 3
  · skip
    refine vv_tabIn (tgt := 74) (off := 73) X (by omega) dX8_count_1 (by omega) (by omega) (by rw [c_1_3]; rfl) (by decide) ?_
    refine vv_aload_n X 0 rfl rfl dX8_count_74 ?_
    refine vv_getr (Nf := 9) (ref := (TX8 0).1) X (by decide) sh_90 rfl 0 (by decide) u_X8_count_8 k_X8_count_10 rfl rfl dX8_count_75 ?_
    refine vv_getr (Nf := 3) (ref := (TX7 1).1) X (by decide) sh_0 rfl 1 (by decide) u_X8_count_7 k_X8_count_117 rfl rfl dX8_count_78 ?_
    refine vv_callVI (As := []) (st := []) (Nf := 3) X 0 (c_X6_weightSum l D cA had M (by omega)) gX8_count_X6_weightSum rfl (by decide +kernel) ⟨by decide, by decide⟩ (Nat.le_of_ble_eq_true rfl) ⟨by decide, by decide⟩ rfl (by decide) sh_6 rfl rfl dX8_count_81 (fun z81 Mc81 q_81 => ?_)
    obtain ⟨e_z81, g_z81⟩ := q_81
    have g_z81 := g_z81.symm
    subst g_z81
    exact vv_iret X hm (⟨⟨fun q => by first | (exfalso; omega) | rfl, fun q => by first | (exfalso; omega) | rfl, fun q => by first | (exfalso; omega) | rfl, fun q => by first | (exfalso; omega) | exact e_z81, fun q => by first | (exfalso; omega) | rfl, fun q => by first | (exfalso; omega) | rfl⟩, fun q => by first | (exfalso; omega) | rfl, fun q => by first | (exfalso; omega) | rfl, eqx_rf _ _⟩) dX8_count_84
  by_cases c_1_4 : w = 4
  · skip
    refine vv_tabIn (tgt := 85) (off := 84) X (by omega) dX8_count_1 (by omega) (by omega) (by rw [c_1_4]; rfl) (by decide) ?_
    refine vv_aload_n X 0 rfl rfl dX8_count_85 ?_
    refine vv_callVI (As := []) (st := []) (Nf := 9) X 0 (c_X8_meanIsEnvelope l D cA had M (by assumption)) gX8_count_X8_meanIsEnvelope rfl (by decide +kernel) ⟨by decide, by decide⟩ (Nat.le_of_ble_eq_true rfl) ⟨by decide, by decide⟩ rfl (by decide) sh_90 rfl rfl dX8_count_86 (fun z86 Mc86 q_86 => ?_)
    refine vv_if_eq (tgt := 96) X (by obtain ⟨⟨lo, hi, k1, k2⟩, k3⟩ := q_86; rw [k2]; split <;> omega) dX8_count_89 (by decide) (fun c_89 => ?_) (fun c_89 => ?_)
    · skip
      obtain ⟨⟨lo, hi, k1, k2⟩, k3⟩ := q_86
      refine vv_iconst (n := 0) X dX8_count_96 ?_
      exact vv_iret X hm (⟨⟨fun q => by first | (exfalso; omega) | rfl, fun q => by first | (exfalso; omega) | rfl, fun q => by first | (exfalso; omega) | rfl, fun q => by first | (exfalso; omega) | rfl, fun _ => ⟨lo, hi, k1, by rw [k2] at c_89; rw [← k2] at c_89; rw [← k2]; split at k2 <;> omega⟩, fun q => by first | (exfalso; omega) | rfl⟩, fun q => by first | (exfalso; omega) | rfl, fun q => by first | (exfalso; omega) | rfl, k3⟩) dX8_count_97
    · skip
      obtain ⟨⟨lo, hi, k1, k2⟩, k3⟩ := q_86
      refine vv_iconst (n := 1) X dX8_count_92 ?_
      refine vv_goto (tgt := 97) X (by decide) dX8_count_93 ?_
      exact vv_iret X hm (⟨⟨fun q => by first | (exfalso; omega) | rfl, fun q => by first | (exfalso; omega) | rfl, fun q => by first | (exfalso; omega) | rfl, fun q => by first | (exfalso; omega) | rfl, fun _ => ⟨lo, hi, k1, by rw [k2] at c_89; rw [← k2] at c_89; rw [← k2]; split at k2 <;> omega⟩, fun q => by first | (exfalso; omega) | rfl⟩, fun q => by first | (exfalso; omega) | rfl, fun q => by first | (exfalso; omega) | rfl, k3⟩) dX8_count_97
  by_cases c_1_5 : w = 5
  · skip
    refine vv_tabIn (tgt := 98) (off := 97) X (by omega) dX8_count_1 (by omega) (by omega) (by rw [c_1_5]; rfl) (by decide) ?_
    refine vv_aload_n X 0 rfl rfl dX8_count_98 ?_
    refine vv_getr (Nf := 9) (ref := (TX8 4).1) X (by decide) sh_90 rfl 4 (by decide) u_X8_count_8 k_X8_count_34 rfl rfl dX8_count_99 ?_
    refine vv_geti (Nf := 6) (ref := (TX4 2).1) (z := (M 95 2)) X (by decide) sh_95 rfl 2 (by decide) u_X8_count_4 k_X8_count_174 rfl rfl (rfl) dX8_count_102 ?_
    exact vv_iret X hm (⟨⟨fun q => by first | (exfalso; omega) | rfl, fun q => by first | (exfalso; omega) | rfl, fun q => by first | (exfalso; omega) | rfl, fun q => by first | (exfalso; omega) | exact e_z81, fun q => by first | (exfalso; omega) | rfl, fun q => by first | (exfalso; omega) | rfl⟩, fun q => by first | (exfalso; omega) | rfl, fun q => by first | (exfalso; omega) | rfl, eqx_rf _ _⟩) dX8_count_105
  have c_1_6 : w = 6 := by omega
  · skip
    refine vv_tabIn (tgt := 106) (off := 105) X (by omega) dX8_count_1 (by omega) (by omega) (by rw [c_1_6]; rfl) (by decide) ?_
    refine vv_aload_n X 0 rfl rfl dX8_count_106 ?_
    refine vv_getr (Nf := 9) (ref := (TX8 1).1) X (by decide) sh_90 rfl 1 (by decide) u_X8_count_8 k_X8_count_19 rfl rfl dX8_count_107 ?_
    refine vv_geti (Nf := 3) (ref := (TX2 2).1) (z := (M 91 2)) X (by decide) sh_91 rfl 2 (by decide) u_X8_count_2 k_X8_count_177 rfl rfl (rfl) dX8_count_110 ?_
    exact vv_iret X hm (⟨⟨fun q => by first | (exfalso; omega) | rfl, fun q => by first | (exfalso; omega) | rfl, fun q => by first | (exfalso; omega) | rfl, fun q => by first | (exfalso; omega) | exact e_z81, fun q => by first | (exfalso; omega) | rfl, fun q => by first | (exfalso; omega) | rfl⟩, fun q => by first | (exfalso; omega) | rfl, fun q => by first | (exfalso; omega) | rfl, eqx_rf _ _⟩) dX8_count_113
theorem u_X8_envelope_1 : ∀ w ∈ u_ws RX1 TX1 2, w ∈ wsX8_envelope := by decide +kernel
theorem u_X8_envelope_8 : ∀ w ∈ u_ws RX8 TX8 9, w ∈ wsX8_envelope := by decide +kernel
theorem k_X8_envelope_48 : Cond.fieldLink yX8_envelope.cls 48 (TX8 6).1 (TX8 6).2.1 (TX8 6).2.2.1 ∈ wsX8_envelope := by decide +kernel
theorem k_X8_envelope_55 : Cond.fieldLink yX8_envelope.cls 55 (TX8 7).1 (TX8 7).2.1 (TX8 7).2.2.1 ∈ wsX8_envelope := by decide +kernel
theorem k_X8_envelope_146 : Cond.fieldLink yX8_envelope.cls 146 (TX1 0).1 (TX1 0).2.1 (TX1 0).2.2.1 ∈ wsX8_envelope := by decide +kernel
theorem k_X8_envelope_151 : Cond.fieldLink yX8_envelope.cls 151 (TX1 1).1 (TX1 1).2.1 (TX1 1).2.2.1 ∈ wsX8_envelope := by decide +kernel
set_option maxRecDepth 100000 in
set_option maxHeartbeats 4000000 in
theorem c_X8_envelope (l : Launch) (D : va_G) {ad : Nat → Nat} (cA : Nat → ClassId) (had : adok ad) (M : Mem) (x w : Int) (hx : -2147483648 ≤ x ∧ x ≤ 2147483647) (hw : -2147483648 ≤ w ∧ w ≤ 2147483647) (hw : WF (vC M 0)) : CtI l yX8_envelope wsX8_envelope 4 91 D ad cA [.ref (ad 90), .int (zI x), .int (zI w)] M (fun z M1 => qEnv x w (vC M 0) z ∧ eqx M M1 [100, 101, 102, 103, 104]) := by
  refine CtI.of (cc := cX8_envelope) (maxL := 3) (ret := (some .int)) had (by decide) rfl (Nat.le_of_ble_eq_true rfl) ?_
  intro p e s m args below meth c X hm
  show VV p l e { frames := 4, cells := 0, slots := 0, locals := 91 } s m args below meth c 3 D ad cA (Afr ad s.heap.size) 0 0 (QI below args s D ad cA (fun z M1 => qEnv x w (vC M 0) z ∧ eqx M M1 [100, 101, 102, 103, 104])) M 0 [(0, .ref (ad 90)), (1, .int (zI x)), (2, .int (zI w))] []
  have hsm : 1 ≤ M 6 2 ∧ M 6 2 ≤ 6 := WFs_pos hw.2.2
  have hwb : ∀ k : Nat, (k : Int) < M 6 2 → (1 ≤ M 7 k ∧ M 7 k ≤ 999) ∧ (0 ≤ M 8 k ∧ M 8 k ≤ 100) := fun k hk => WFs_b hw.2.2 hk
  have hW : cWR M := hw.2.1
  have hn5 : 0 ≤ M 1 4 ∧ M 1 4 ≤ 5 := by
    have q1 := hW.2.1
    have q2 := hW.1
    omega
  have hp9 : 1 ≤ M 0 2 ∧ M 0 2 ≤ 99 := hw.1
  refine vv_iload_n X 1 rfl rfl dX8_envelope_0 ?_
  refine vv_callSI (As := [.int (zI x)]) (st := []) X 1 (c_X8_isPosterior l D cA had M x (by omega)) gX8_envelope_X8_isPosterior rfl (by decide +kernel) ⟨by decide, by decide⟩ (Nat.le_of_ble_eq_true rfl) ⟨by decide, by decide⟩ rfl rfl dX8_envelope_1 (fun z1 Mc1 q_1 => ?_)
  obtain ⟨e_z1, g_z1⟩ := q_1
  have g_z1 := g_z1.symm
  subst g_z1
  refine vv_if_eq (tgt := 14) X (by rw [e_z1]; split <;> omega) dX8_envelope_4 (by decide) (fun c_4 => ?_) (fun c_4 => ?_)
  · skip
    have hin : ¬ (0 ≤ x ∧ x ≤ 100) := fun q => by rw [if_pos q] at e_z1; omega
    refine vv_bipush (n := (-2)) X (by decide) dX8_envelope_14 ?_
    exact vv_iret X hm (⟨⟨fun _ => rfl, fun q => by first | exact absurd q.1 hin | exact absurd q.2 hin2⟩, eqx_rf _ _⟩) dX8_envelope_16
  · skip
    have hin : 0 ≤ x ∧ x ≤ 100 := Classical.byContradiction fun q => by rw [if_neg q] at e_z1; omega
    refine vv_iload_n X 2 rfl rfl dX8_envelope_7 ?_
    refine vv_callSI (As := [.int (zI w)]) (st := []) X 1 (c_X8_isHalfOfFraction l D cA had M w (by omega)) gX8_envelope_X8_isHalfOfFraction rfl (by decide +kernel) ⟨by decide, by decide⟩ (Nat.le_of_ble_eq_true rfl) ⟨by decide, by decide⟩ rfl rfl dX8_envelope_8 (fun z8 Mc8 q_8 => ?_)
    obtain ⟨e_z8, g_z8⟩ := q_8
    have g_z8 := g_z8.symm
    subst g_z8
    refine vv_if_ne (tgt := 17) X (by rw [e_z8]; split <;> omega) dX8_envelope_11 (by decide) (fun c_11 => ?_) (fun c_11 => ?_)
    · skip
      have hin2 : w = 0 ∨ w = 1 := Classical.byContradiction fun q => by rw [if_neg q] at e_z8; omega
      refine vv_aload_n X 0 rfl rfl dX8_envelope_17 ?_
      refine vv_iload_n X 1 rfl rfl dX8_envelope_18 ?_
      refine vv_callVV (As := [.int (zI x)]) (st := []) (Nf := 9) X 1 (c_X8_aimAt l D cA had M x (by omega) (by assumption)) gX8_envelope_X8_aimAt rfl (by decide +kernel) ⟨by decide, by decide⟩ (Nat.le_of_ble_eq_true rfl) ⟨by decide, by decide⟩ rfl (by decide) sh_90 rfl rfl dX8_envelope_19 (fun Mc19 q_19 => ?_)
      obtain ⟨E19, V19, B19, L19, U19⟩ := q_19
      have e_Mc19_0 : Mc19 0 = M 0 := (E19 0 (by decide)).trans (show M 0 = M 0 from rfl)
      have e_Mc19_1 : Mc19 1 = M 1 := (E19 1 (by decide)).trans (show M 1 = M 1 from rfl)
      have e_Mc19_2 : Mc19 2 = M 2 := (E19 2 (by decide)).trans (show M 2 = M 2 from rfl)
      have e_Mc19_3 : Mc19 3 = M 3 := (E19 3 (by decide)).trans (show M 3 = M 3 from rfl)
      have e_Mc19_4 : Mc19 4 = M 4 := (E19 4 (by decide)).trans (show M 4 = M 4 from rfl)
      have e_Mc19_5 : Mc19 5 = M 5 := (E19 5 (by decide)).trans (show M 5 = M 5 from rfl)
      have e_Mc19_6 : Mc19 6 = M 6 := (E19 6 (by decide)).trans (show M 6 = M 6 from rfl)
      have e_Mc19_7 : Mc19 7 = M 7 := (E19 7 (by decide)).trans (show M 7 = M 7 from rfl)
      have e_Mc19_8 : Mc19 8 = M 8 := (E19 8 (by decide)).trans (show M 8 = M 8 from rfl)
      have e_Mc19_99 : Mc19 99 = M 99 := (E19 99 (by decide)).trans (show M 99 = M 99 from rfl)
      have e_Mc19_103 : Mc19 103 = M 103 := (E19 103 (by decide)).trans (show M 103 = M 103 from rfl)
      have e_Mc19_104 : Mc19 104 = M 104 := (E19 104 (by decide)).trans (show M 104 = M 104 from rfl)
      obtain ⟨cr, cw, cp, cv, cN, cD, cx⟩ := cu_f (M := M) (by first | exact hW | exact hW8) hin V19 B19 L19 U19
      have fe := fr_env (v := vA (vC M 0)) (lo := Mc19 100 3) (hi := Mc19 100 4) B19.1
      refine vv_aload_n X 0 rfl rfl dX8_envelope_22 ?_
      refine vv_getr (Nf := 9) (ref := (TX8 6).1) X (by decide) sh_90 rfl 6 (by decide) u_X8_envelope_8 k_X8_envelope_48 rfl rfl dX8_envelope_23 ?_
      refine vv_aload_n X 0 rfl rfl dX8_envelope_26 ?_
      refine vv_getr (Nf := 9) (ref := (TX8 7).1) X (by decide) sh_90 rfl 7 (by decide) u_X8_envelope_8 k_X8_envelope_55 rfl rfl dX8_envelope_27 ?_
      refine vv_callVV (As := [.ref (ad 103)]) (st := []) (Nf := 7) X 1 (c_X0_tellEnvelope_103 l D cA had Mc19 (cr.1) (cr.2) (cw.1) (cw.2) (cp) (cv)) gX8_envelope_X0_tellEnvelope rfl (by decide +kernel) ⟨by decide, by decide⟩ (Nat.le_of_ble_eq_true rfl) ⟨by decide, by decide⟩ rfl (by decide) sh_100 rfl rfl dX8_envelope_30 (fun Mc30 q_30 => ?_)
      have hE : eqx M Mc30 [100, 101, 102, 103, 104] := by
        rw [q_30]
        exact eqx_up _ _ (eqx_up _ _ (eqx_mono E19 (by decide)) (by decide)) (by decide)
      have g1 : Mc30 103 0 = frA (sN (vA (vC M 0)) x (Mc19 100 3) (Mc19 100 4)) (sD (Mc19 100 3) (Mc19 100 4)) := by rw [q_30, up2_m _ _ _ (by decide), up2_s, cN, cD]; exact fe.1
      have g2 : Mc30 103 1 = frB (sN (vA (vC M 0)) x (Mc19 100 3) (Mc19 100 4)) (sD (Mc19 100 3) (Mc19 100 4)) := by rw [q_30, up2_s, cN, cD]; exact fe.2
      refine vv_iload_n X 2 rfl rfl dX8_envelope_33 ?_
      refine vv_if_ne (tgt := 50) X (by omega) dX8_envelope_34 (by decide) (fun c_34 => ?_) (fun c_34 => ?_)
      · skip
        refine vv_aload_n X 0 rfl rfl dX8_envelope_50 ?_
        refine vv_getr (Nf := 9) (ref := (TX8 7).1) X (by decide) sh_90 rfl 7 (by decide) u_X8_envelope_8 k_X8_envelope_55 rfl rfl dX8_envelope_51 ?_
        refine vv_geti (Nf := 2) (ref := (TX1 1).1) (z := (Mc30 103 1)) X (by decide) sh_103 rfl 1 (by decide) u_X8_envelope_1 k_X8_envelope_151 rfl rfl (rfl) dX8_envelope_54 ?_
        exact vv_iret X hm (⟨⟨fun q => absurd ⟨hin, hin2⟩ q, fun _ => ⟨Mc19 100 3, Mc19 100 4, B19, fun q => by first | (exfalso; omega) | rw [g1], fun q => by first | (exfalso; omega) | exact g2⟩⟩, hE⟩) dX8_envelope_57
      · skip
        refine vv_aload_n X 0 rfl rfl dX8_envelope_37 ?_
        refine vv_getr (Nf := 9) (ref := (TX8 7).1) X (by decide) sh_90 rfl 7 (by decide) u_X8_envelope_8 k_X8_envelope_55 rfl rfl dX8_envelope_38 ?_
        refine vv_geti (Nf := 2) (ref := (TX1 0).1) (z := (Mc30 103 0)) X (by decide) sh_103 rfl 0 (by decide) u_X8_envelope_1 k_X8_envelope_146 rfl rfl (rfl) dX8_envelope_41 ?_
        refine vv_ldc (n := 10000000) (v := 10000000) X (by decide +kernel) (by decide) dX8_envelope_44 ?_
        refine vv_iadd X dX8_envelope_46 ?_
        refine vv_goto (tgt := 57) X (by decide) dX8_envelope_47 ?_
        exact vv_iret X hm (⟨⟨fun q => absurd ⟨hin, hin2⟩ q, fun _ => ⟨Mc19 100 3, Mc19 100 4, B19, fun q => by first | (exfalso; omega) | rw [g1], fun q => by first | (exfalso; omega) | exact g2⟩⟩, hE⟩) dX8_envelope_57
    · skip
      have hin2 : ¬ (w = 0 ∨ w = 1) := fun q => by rw [if_pos q] at e_z8; omega
      refine vv_bipush (n := (-2)) X (by decide) dX8_envelope_14 ?_
      exact vv_iret X hm (⟨⟨fun _ => rfl, fun q => by first | exact absurd q.1 hin | exact absurd q.2 hin2⟩, eqx_rf _ _⟩) dX8_envelope_16
theorem u_X8_best_0 : ∀ w ∈ u_ws RX0 TX0 7, w ∈ wsX8_best := by decide +kernel
theorem u_X8_best_8 : ∀ w ∈ u_ws RX8 TX8 9, w ∈ wsX8_best := by decide +kernel
theorem k_X8_best_48 : Cond.fieldLink yX8_best.cls 48 (TX8 6).1 (TX8 6).2.1 (TX8 6).2.2.1 ∈ wsX8_best := by decide +kernel
theorem k_X8_best_187 : Cond.fieldLink yX8_best.cls 187 (TX0 3).1 (TX0 3).2.1 (TX0 3).2.2.1 ∈ wsX8_best := by decide +kernel
theorem k_X8_best_190 : Cond.fieldLink yX8_best.cls 190 (TX0 4).1 (TX0 4).2.1 (TX0 4).2.2.1 ∈ wsX8_best := by decide +kernel
theorem k_X8_best_193 : Cond.fieldLink yX8_best.cls 193 (TX0 5).1 (TX0 5).2.1 (TX0 5).2.2.1 ∈ wsX8_best := by decide +kernel
theorem k_X8_best_196 : Cond.fieldLink yX8_best.cls 196 (TX0 6).1 (TX0 6).2.1 (TX0 6).2.2.1 ∈ wsX8_best := by decide +kernel
set_option maxRecDepth 100000 in
set_option maxHeartbeats 4000000 in
theorem c_X8_best (l : Launch) (D : va_G) {ad : Nat → Nat} (cA : Nat → ClassId) (had : adok ad) (M : Mem) (x w : Int) (hx : -2147483648 ≤ x ∧ x ≤ 2147483647) (hw : -2147483648 ≤ w ∧ w ≤ 2147483647) (hw : WF (vC M 0)) : CtI l yX8_best wsX8_best 4 91 D ad cA [.ref (ad 90), .int (zI x), .int (zI w)] M (fun z M1 => qBst x w (vC M 0) z ∧ eqx M M1 [100, 101, 102, 103, 104]) := by
  refine CtI.of (cc := cX8_best) (maxL := 3) (ret := (some .int)) had (by decide) rfl (Nat.le_of_ble_eq_true rfl) ?_
  intro p e s m args below meth c X hm
  show VV p l e { frames := 4, cells := 0, slots := 0, locals := 91 } s m args below meth c 3 D ad cA (Afr ad s.heap.size) 0 0 (QI below args s D ad cA (fun z M1 => qBst x w (vC M 0) z ∧ eqx M M1 [100, 101, 102, 103, 104])) M 0 [(0, .ref (ad 90)), (1, .int (zI x)), (2, .int (zI w))] []
  have hsm : 1 ≤ M 6 2 ∧ M 6 2 ≤ 6 := WFs_pos hw.2.2
  have hwb : ∀ k : Nat, (k : Int) < M 6 2 → (1 ≤ M 7 k ∧ M 7 k ≤ 999) ∧ (0 ≤ M 8 k ∧ M 8 k ≤ 100) := fun k hk => WFs_b hw.2.2 hk
  have hW : cWR M := hw.2.1
  have hn5 : 0 ≤ M 1 4 ∧ M 1 4 ≤ 5 := by
    have q1 := hW.2.1
    have q2 := hW.1
    omega
  have hp9 : 1 ≤ M 0 2 ∧ M 0 2 ≤ 99 := hw.1
  refine vv_iload_n X 1 rfl rfl dX8_best_0 ?_
  refine vv_callSI (As := [.int (zI x)]) (st := []) X 1 (c_X8_isPosterior l D cA had M x (by omega)) gX8_best_X8_isPosterior rfl (by decide +kernel) ⟨by decide, by decide⟩ (Nat.le_of_ble_eq_true rfl) ⟨by decide, by decide⟩ rfl rfl dX8_best_1 (fun z1 Mc1 q_1 => ?_)
  obtain ⟨e_z1, g_z1⟩ := q_1
  have g_z1 := g_z1.symm
  subst g_z1
  refine vv_if_ne (tgt := 10) X (by rw [e_z1]; split <;> omega) dX8_best_4 (by decide) (fun c_4 => ?_) (fun c_4 => ?_)
  · skip
    have hin : 0 ≤ x ∧ x ≤ 100 := Classical.byContradiction fun q => by rw [if_neg q] at e_z1; omega
    refine vv_aload_n X 0 rfl rfl dX8_best_10 ?_
    refine vv_iload_n X 1 rfl rfl dX8_best_11 ?_
    refine vv_callVV (As := [.int (zI x)]) (st := []) (Nf := 9) X 1 (c_X8_aimAt l D cA had M x (by omega) (by assumption)) gX8_best_X8_aimAt rfl (by decide +kernel) ⟨by decide, by decide⟩ (Nat.le_of_ble_eq_true rfl) ⟨by decide, by decide⟩ rfl (by decide) sh_90 rfl rfl dX8_best_12 (fun Mc12 q_12 => ?_)
    obtain ⟨E12, V12, B12, L12, U12⟩ := q_12
    have e_Mc12_0 : Mc12 0 = M 0 := (E12 0 (by decide)).trans (show M 0 = M 0 from rfl)
    have e_Mc12_1 : Mc12 1 = M 1 := (E12 1 (by decide)).trans (show M 1 = M 1 from rfl)
    have e_Mc12_2 : Mc12 2 = M 2 := (E12 2 (by decide)).trans (show M 2 = M 2 from rfl)
    have e_Mc12_3 : Mc12 3 = M 3 := (E12 3 (by decide)).trans (show M 3 = M 3 from rfl)
    have e_Mc12_4 : Mc12 4 = M 4 := (E12 4 (by decide)).trans (show M 4 = M 4 from rfl)
    have e_Mc12_5 : Mc12 5 = M 5 := (E12 5 (by decide)).trans (show M 5 = M 5 from rfl)
    have e_Mc12_6 : Mc12 6 = M 6 := (E12 6 (by decide)).trans (show M 6 = M 6 from rfl)
    have e_Mc12_7 : Mc12 7 = M 7 := (E12 7 (by decide)).trans (show M 7 = M 7 from rfl)
    have e_Mc12_8 : Mc12 8 = M 8 := (E12 8 (by decide)).trans (show M 8 = M 8 from rfl)
    have e_Mc12_99 : Mc12 99 = M 99 := (E12 99 (by decide)).trans (show M 99 = M 99 from rfl)
    have e_Mc12_103 : Mc12 103 = M 103 := (E12 103 (by decide)).trans (show M 103 = M 103 from rfl)
    have e_Mc12_104 : Mc12 104 = M 104 := (E12 104 (by decide)).trans (show M 104 = M 104 from rfl)
    refine vv_iload_n X 2 rfl rfl dX8_best_15 ?_
    by_cases c_16 : w < 0 ∨ 3 < w
    · skip
      refine vv_tabOut (tgt := 80) X (by omega) dX8_best_16 c_16 (by decide) ?_
      refine vv_bipush (n := (-2)) X (by decide) dX8_best_80 ?_
      exact vv_iret X hm (⟨⟨fun q => by first | rfl | exact absurd ⟨hin, by omega⟩ q, fun q => by first | (exfalso; omega) | exact ⟨Mc12 100 3, Mc12 100 4, B12, fun q => by first | (exfalso; omega) | rfl, fun q => by first | (exfalso; omega) | rfl, fun q => by first | (exfalso; omega) | exact L12, fun q => by first | (exfalso; omega) | exact U12⟩⟩, eqx_mono E12 (by decide)⟩) dX8_best_82
    by_cases c_16_0 : w = 0
    · skip
      refine vv_tabIn (tgt := 48) (off := 32) X (by omega) dX8_best_16 (by omega) (by omega) (by rw [c_16_0]; rfl) (by decide) ?_
      refine vv_aload_n X 0 rfl rfl dX8_best_48 ?_
      refine vv_getr (Nf := 9) (ref := (TX8 6).1) X (by decide) sh_90 rfl 6 (by decide) u_X8_best_8 k_X8_best_48 rfl rfl dX8_best_49 ?_
      refine vv_geti (Nf := 7) (ref := (TX0 3).1) (z := (Mc12 100 3)) X (by decide) sh_100 rfl 3 (by decide) u_X8_best_0 k_X8_best_187 rfl rfl (rfl) dX8_best_52 ?_
      exact vv_iret X hm (⟨⟨fun q => by first | rfl | exact absurd ⟨hin, by omega⟩ q, fun q => by first | (exfalso; omega) | exact ⟨Mc12 100 3, Mc12 100 4, B12, fun q => by first | (exfalso; omega) | rfl, fun q => by first | (exfalso; omega) | rfl, fun q => by first | (exfalso; omega) | exact L12, fun q => by first | (exfalso; omega) | exact U12⟩⟩, eqx_mono E12 (by decide)⟩) dX8_best_55
    by_cases c_16_1 : w = 1
    · skip
      refine vv_tabIn (tgt := 56) (off := 40) X (by omega) dX8_best_16 (by omega) (by omega) (by rw [c_16_1]; rfl) (by decide) ?_
      refine vv_aload_n X 0 rfl rfl dX8_best_56 ?_
      refine vv_getr (Nf := 9) (ref := (TX8 6).1) X (by decide) sh_90 rfl 6 (by decide) u_X8_best_8 k_X8_best_48 rfl rfl dX8_best_57 ?_
      refine vv_geti (Nf := 7) (ref := (TX0 4).1) (z := (Mc12 100 4)) X (by decide) sh_100 rfl 4 (by decide) u_X8_best_0 k_X8_best_190 rfl rfl (rfl) dX8_best_60 ?_
      exact vv_iret X hm (⟨⟨fun q => by first | rfl | exact absurd ⟨hin, by omega⟩ q, fun q => by first | (exfalso; omega) | exact ⟨Mc12 100 3, Mc12 100 4, B12, fun q => by first | (exfalso; omega) | rfl, fun q => by first | (exfalso; omega) | rfl, fun q => by first | (exfalso; omega) | exact L12, fun q => by first | (exfalso; omega) | exact U12⟩⟩, eqx_mono E12 (by decide)⟩) dX8_best_63
    by_cases c_16_2 : w = 2
    · skip
      refine vv_tabIn (tgt := 64) (off := 48) X (by omega) dX8_best_16 (by omega) (by omega) (by rw [c_16_2]; rfl) (by decide) ?_
      refine vv_aload_n X 0 rfl rfl dX8_best_64 ?_
      refine vv_getr (Nf := 9) (ref := (TX8 6).1) X (by decide) sh_90 rfl 6 (by decide) u_X8_best_8 k_X8_best_48 rfl rfl dX8_best_65 ?_
      refine vv_geti (Nf := 7) (ref := (TX0 5).1) (z := (Mc12 100 5)) X (by decide) sh_100 rfl 5 (by decide) u_X8_best_0 k_X8_best_193 rfl rfl (rfl) dX8_best_68 ?_
      exact vv_iret X hm (⟨⟨fun q => by first | rfl | exact absurd ⟨hin, by omega⟩ q, fun q => by first | (exfalso; omega) | exact ⟨Mc12 100 3, Mc12 100 4, B12, fun q => by first | (exfalso; omega) | rfl, fun q => by first | (exfalso; omega) | rfl, fun q => by first | (exfalso; omega) | exact L12, fun q => by first | (exfalso; omega) | exact U12⟩⟩, eqx_mono E12 (by decide)⟩) dX8_best_71
    have c_16_3 : w = 3 := by omega
    · skip
      refine vv_tabIn (tgt := 72) (off := 56) X (by omega) dX8_best_16 (by omega) (by omega) (by rw [c_16_3]; rfl) (by decide) ?_
      refine vv_aload_n X 0 rfl rfl dX8_best_72 ?_
      refine vv_getr (Nf := 9) (ref := (TX8 6).1) X (by decide) sh_90 rfl 6 (by decide) u_X8_best_8 k_X8_best_48 rfl rfl dX8_best_73 ?_
      refine vv_geti (Nf := 7) (ref := (TX0 6).1) (z := (Mc12 100 6)) X (by decide) sh_100 rfl 6 (by decide) u_X8_best_0 k_X8_best_196 rfl rfl (rfl) dX8_best_76 ?_
      exact vv_iret X hm (⟨⟨fun q => by first | rfl | exact absurd ⟨hin, by omega⟩ q, fun q => by first | (exfalso; omega) | exact ⟨Mc12 100 3, Mc12 100 4, B12, fun q => by first | (exfalso; omega) | rfl, fun q => by first | (exfalso; omega) | rfl, fun q => by first | (exfalso; omega) | exact L12, fun q => by first | (exfalso; omega) | exact U12⟩⟩, eqx_mono E12 (by decide)⟩) dX8_best_79
  · skip
    have hin : ¬ (0 ≤ x ∧ x ≤ 100) := fun q => by rw [if_pos q] at e_z1; omega
    refine vv_bipush (n := (-2)) X (by decide) dX8_best_7 ?_
    exact vv_iret X hm (⟨⟨fun _ => rfl, fun q => absurd q.1 hin⟩, eqx_rf _ _⟩) dX8_best_9
theorem u_X8_findMostGained_1 : ∀ w ∈ u_ws RX1 TX1 2, w ∈ wsX8_findMostGained := by decide +kernel
theorem u_X8_findMostGained_7 : ∀ w ∈ u_ws RX7 TX7 3, w ∈ wsX8_findMostGained := by decide +kernel
theorem u_X8_findMostGained_8 : ∀ w ∈ u_ws RX8 TX8 9, w ∈ wsX8_findMostGained := by decide +kernel
theorem k_X8_findMostGained_10 : Cond.fieldLink yX8_findMostGained.cls 10 (TX8 0).1 (TX8 0).2.1 (TX8 0).2.2.1 ∈ wsX8_findMostGained := by decide +kernel
theorem k_X8_findMostGained_48 : Cond.fieldLink yX8_findMostGained.cls 48 (TX8 6).1 (TX8 6).2.1 (TX8 6).2.2.1 ∈ wsX8_findMostGained := by decide +kernel
theorem k_X8_findMostGained_55 : Cond.fieldLink yX8_findMostGained.cls 55 (TX8 7).1 (TX8 7).2.1 (TX8 7).2.2.1 ∈ wsX8_findMostGained := by decide +kernel
theorem k_X8_findMostGained_59 : Cond.fieldLink yX8_findMostGained.cls 59 (TX8 8).1 (TX8 8).2.1 (TX8 8).2.2.1 ∈ wsX8_findMostGained := by decide +kernel
theorem k_X8_findMostGained_73 : Cond.fieldLink yX8_findMostGained.cls 73 (TX7 0).1 (TX7 0).2.1 (TX7 0).2.2.1 ∈ wsX8_findMostGained := by decide +kernel
theorem k_X8_findMostGained_146 : Cond.fieldLink yX8_findMostGained.cls 146 (TX1 0).1 (TX1 0).2.1 (TX1 0).2.2.1 ∈ wsX8_findMostGained := by decide +kernel
theorem k_X8_findMostGained_151 : Cond.fieldLink yX8_findMostGained.cls 151 (TX1 1).1 (TX1 1).2.1 (TX1 1).2.2.1 ∈ wsX8_findMostGained := by decide +kernel
set_option maxRecDepth 100000 in
set_option maxHeartbeats 4000000 in
theorem c_X8_findMostGained (l : Launch) (D : va_G) {ad : Nat → Nat} (cA : Nat → ClassId) (had : adok ad) (M : Mem) (hW : cWR M) : CtI l yX8_findMostGained wsX8_findMostGained 4 92 D ad cA [.ref (ad 90)] M (fun z M1 => MG (cvl M) z (M1 103 0) (M1 103 1) ∧ eqx M M1 [100, 101, 102, 103, 104]) := by
  refine CtI.of (cc := cX8_findMostGained) (maxL := 3) (ret := (some .int)) had (by decide) rfl (Nat.le_of_ble_eq_true rfl) ?_
  intro p e s m args below meth c X hm
  show VV p l e { frames := 4, cells := 0, slots := 0, locals := 92 } s m args below meth c 3 D ad cA (Afr ad s.heap.size) 0 0 (QI below args s D ad cA (fun z M1 => MG (cvl M) z (M1 103 0) (M1 103 1) ∧ eqx M M1 [100, 101, 102, 103, 104])) M 0 [(0, .ref (ad 90))] []
  have hvl : ∀ y : Int, -495 ≤ cvl M y ∧ cvl M y ≤ 990 := fun y => vl_b hW.2
  refine vv_aload_n X 0 rfl rfl dX8_findMostGained_0 ?_
  refine vv_getr (Nf := 9) (ref := (TX8 6).1) X (by decide) sh_90 rfl 6 (by decide) u_X8_findMostGained_8 k_X8_findMostGained_48 rfl rfl dX8_findMostGained_1 ?_
  refine vv_aload_n X 0 rfl rfl dX8_findMostGained_4 ?_
  refine vv_getr (Nf := 9) (ref := (TX8 0).1) X (by decide) sh_90 rfl 0 (by decide) u_X8_findMostGained_8 k_X8_findMostGained_10 rfl rfl dX8_findMostGained_5 ?_
  refine vv_getr (Nf := 3) (ref := (TX7 0).1) X (by decide) sh_0 rfl 0 (by decide) u_X8_findMostGained_7 k_X8_findMostGained_73 rfl rfl dX8_findMostGained_8 ?_
  refine vv_callVV (As := [.ref (ad 1)]) (st := []) (Nf := 7) X 1 (c_X0_draw l D cA had M (by assumption)) gX8_findMostGained_X0_draw rfl (by decide +kernel) ⟨by decide, by decide⟩ (Nat.le_of_ble_eq_true rfl) ⟨by decide, by decide⟩ rfl (by decide) sh_100 rfl rfl dX8_findMostGained_11 (fun Mc11 q_11 => ?_)
  obtain ⟨E11, V11, H11, N11⟩ := q_11
  have e_Mc11_0 : Mc11 0 = M 0 := (E11 0 (by decide)).trans (show M 0 = M 0 from rfl)
  have e_Mc11_1 : Mc11 1 = M 1 := (E11 1 (by decide)).trans (show M 1 = M 1 from rfl)
  have e_Mc11_2 : Mc11 2 = M 2 := (E11 2 (by decide)).trans (show M 2 = M 2 from rfl)
  have e_Mc11_3 : Mc11 3 = M 3 := (E11 3 (by decide)).trans (show M 3 = M 3 from rfl)
  have e_Mc11_4 : Mc11 4 = M 4 := (E11 4 (by decide)).trans (show M 4 = M 4 from rfl)
  have e_Mc11_5 : Mc11 5 = M 5 := (E11 5 (by decide)).trans (show M 5 = M 5 from rfl)
  have e_Mc11_6 : Mc11 6 = M 6 := (E11 6 (by decide)).trans (show M 6 = M 6 from rfl)
  have e_Mc11_7 : Mc11 7 = M 7 := (E11 7 (by decide)).trans (show M 7 = M 7 from rfl)
  have e_Mc11_8 : Mc11 8 = M 8 := (E11 8 (by decide)).trans (show M 8 = M 8 from rfl)
  have e_Mc11_99 : Mc11 99 = M 99 := (E11 99 (by decide)).trans (show M 99 = M 99 from rfl)
  have e_Mc11_103 : Mc11 103 = M 103 := (E11 103 (by decide)).trans (show M 103 = M 103 from rfl)
  have e_Mc11_104 : Mc11 104 = M 104 := (E11 104 (by decide)).trans (show M 104 = M 104 from rfl)
  have hvb : ∀ y : Int, (0 ≤ y ∧ y ≤ 100) → -990 ≤ vM Mc11 y ∧ vM Mc11 y ≤ 990 := fun y hy => by
    have := V11 y.toNat (by omega)
    have h2 := vl_b (x := ((y.toNat : Nat) : Int)) hW.2
    show -990 ≤ Mc11 101 y.toNat ∧ Mc11 101 y.toNat ≤ 990
    rw [this]
    unfold cvl
    omega
  refine vv_iconst (n := 1) X dX8_findMostGained_14 ?_
  refine vv_istore_n (lv' := [(1, .int (zI 1)), (0, .ref (ad 90))]) X rfl (by decide) rfl dX8_findMostGained_15 ?_
  refine vv_aload_n X 1 rfl rfl dX8_findMostGained_16 ?_
  refine vv_getr (Nf := 9) (ref := (TX8 7).1) X (by decide) sh_90 rfl 7 (by decide) u_X8_findMostGained_8 k_X8_findMostGained_55 rfl rfl dX8_findMostGained_17 ?_
  refine vv_iconst (n := 0) X dX8_findMostGained_20 ?_
  refine vv_iconst (n := 1) X dX8_findMostGained_21 ?_
  refine vv_callVV (As := [.int (zI 0), .int (zI 1)]) (st := []) (Nf := 2) X 2 (c_X1_become_103 l D cA had Mc11 0 1 (by omega) (by omega) (by omega)) gX8_findMostGained_X1_become rfl (by decide +kernel) ⟨by decide, by decide⟩ (Nat.le_of_ble_eq_true rfl) ⟨by decide, by decide⟩ rfl (by decide) sh_103 rfl rfl dX8_findMostGained_22 (fun Mc22 q_22 => ?_)
  have q_22 := q_22.symm
  subst q_22
  refine vv_iconst (n := 1) X dX8_findMostGained_25 ?_
  refine vv_istore_n (lv' := [(2, .int (zI 1)), (1, .int (zI 1)), (0, .ref (ad 90))]) X rfl (by decide) rfl dX8_findMostGained_26 ?_
  have loop_27 : ∀ (n : Nat) (M_27 : Mem) (f : Int) (x : Int), (1 ≤ x ∧ x ≤ 100) ∧ (1 ≤ f ∧ f ≤ 100) → eqx Mc11 M_27 [100, 103, 104] → M_27 100 2 = Mc11 100 2 → ((x = 1 ∧ f = 1 ∧ M_27 103 0 = 0 ∧ M_27 103 1 = 1) ∨ (1 < x ∧ MGR (cvl M) x f (M_27 103 0) (M_27 103 1))) → (100 - x).toNat < n → VV p l e { frames := 4, cells := 0, slots := 0, locals := 92 } s m args below meth c 3 D ad cA (Afr ad s.heap.size) 0 0 (QI below args s D ad cA (fun z M1 => MG (cvl M) z (M1 103 0) (M1 103 1) ∧ eqx M M1 [100, 101, 102, 103, 104])) M_27 27 [(0, .ref (ad 90)), (1, .int (zI f)), (2, .int (zI x))] [] := by
    intro n
    induction n with
    | zero => intro M_27 f x hx hE hC hI hn; exact absurd hn (Nat.not_lt_zero _)
    | succ n ih_27 =>
      intro M_27 f x hx hE hC hI hn
      have e101 : M_27 101 = Mc11 101 := hE 101 (by decide)
      have e102 : M_27 102 = Mc11 102 := hE 102 (by decide)
      have hfb : (0 ≤ M_27 103 0 ∧ M_27 103 0 ≤ 396000) ∧ (0 < M_27 103 1 ∧ M_27 103 1 ≤ 200) := by
        rcases hI with ⟨_, _, i3, i4⟩ | ⟨_, i2⟩
        · omega
        · exact MGR_b hvl i2 (by omega)
      refine vv_iload_n X 2 rfl rfl dX8_findMostGained_27 ?_
      refine vv_bipush (n := 100) X (by decide) dX8_findMostGained_28 ?_
      refine vv_icmp_ge (tgt := 96) X (by omega) (by omega) dX8_findMostGained_30 (by decide) (fun c_30 => ?_) (fun c_30 => ?_)
      · skip
        refine vv_iload_n X 1 rfl rfl dX8_findMostGained_96 ?_
        exact vv_iret X hm (by
          have e : x = 100 := by omega
          rcases hI with ⟨i1, _⟩ | ⟨_, i2⟩
          · omega
          · rw [e] at i2
            exact ⟨MGR_end i2, eqx_tr (eqx_mono E11 (by decide)) (eqx_mono hE (by decide))⟩) dX8_findMostGained_97
      · skip
        refine vv_aload_n X 0 rfl rfl dX8_findMostGained_33 ?_
        refine vv_getr (Nf := 9) (ref := (TX8 6).1) X (by decide) sh_90 rfl 6 (by decide) u_X8_findMostGained_8 k_X8_findMostGained_48 rfl rfl dX8_findMostGained_34 ?_
        refine vv_iload_n X 2 rfl rfl dX8_findMostGained_37 ?_
        refine vv_callVV (As := [.int (zI x)]) (st := []) (Nf := 7) X 1 (c_X0_aim l D cA had M_27 x (by omega) (by rw [hC]; exact N11) (by
          show Hull (fun y => M_27 101 y.toNat) (M_27 102) (M_27 100 2).toNat 100
          rw [e101, e102, hC]
          exact H11) (fun y hy => by
          show -990 ≤ M_27 101 y.toNat ∧ M_27 101 y.toNat ≤ 990
          rw [e101]
          exact hvb y hy)) gX8_findMostGained_X0_aim rfl (by decide +kernel) ⟨by decide, by decide⟩ (Nat.le_of_ble_eq_true rfl) ⟨by decide, by decide⟩ rfl (by decide) sh_100 rfl rfl dX8_findMostGained_38 (fun Mc38 q_38 => ?_)
        obtain ⟨E38, C38, B38, L38, U38⟩ := q_38
        have e_Mc38_0 : Mc38 0 = M_27 0 := (E38 0 (by decide)).trans (show M_27 0 = M_27 0 from rfl)
        have e_Mc38_1 : Mc38 1 = M_27 1 := (E38 1 (by decide)).trans (show M_27 1 = M_27 1 from rfl)
        have e_Mc38_2 : Mc38 2 = M_27 2 := (E38 2 (by decide)).trans (show M_27 2 = M_27 2 from rfl)
        have e_Mc38_3 : Mc38 3 = M_27 3 := (E38 3 (by decide)).trans (show M_27 3 = M_27 3 from rfl)
        have e_Mc38_4 : Mc38 4 = M_27 4 := (E38 4 (by decide)).trans (show M_27 4 = M_27 4 from rfl)
        have e_Mc38_5 : Mc38 5 = M_27 5 := (E38 5 (by decide)).trans (show M_27 5 = M_27 5 from rfl)
        have e_Mc38_6 : Mc38 6 = M_27 6 := (E38 6 (by decide)).trans (show M_27 6 = M_27 6 from rfl)
        have e_Mc38_7 : Mc38 7 = M_27 7 := (E38 7 (by decide)).trans (show M_27 7 = M_27 7 from rfl)
        have e_Mc38_8 : Mc38 8 = M_27 8 := (E38 8 (by decide)).trans (show M_27 8 = M_27 8 from rfl)
        have e_Mc38_99 : Mc38 99 = M_27 99 := (E38 99 (by decide)).trans (show M_27 99 = M_27 99 from rfl)
        have e_Mc38_101 : Mc38 101 = M_27 101 := (E38 101 (by decide)).trans (show M_27 101 = M_27 101 from rfl)
        have e_Mc38_102 : Mc38 102 = M_27 102 := (E38 102 (by decide)).trans (show M_27 102 = M_27 102 from rfl)
        have e_Mc38_103 : Mc38 103 = M_27 103 := (E38 103 (by decide)).trans (show M_27 103 = M_27 103 from rfl)
        have e_Mc38_104 : Mc38 104 = M_27 104 := (E38 104 (by decide)).trans (show M_27 104 = M_27 104 from rfl)
        have hVx : ∀ y : Nat, y ≤ 100 → Mc38 101 y = cvl M (y : Int) := fun y hy => by rw [E38 101 (by decide), e101]; exact V11 y hy
        have hBx : isB (cvl M) x (Mc38 100 3) (Mc38 100 4) := isB_cong B38 (fun y h1 h2 => by
          show M_27 101 y.toNat = cvl M y
          rw [e101, V11 y.toNat (by omega), show ((y.toNat : Nat) : Int) = y by omega]) (by omega)
        obtain ⟨cr, cw, cp, cv, cN, cD, cx⟩ := cu_f (M := M) (x := x) hW (by omega) hVx hBx L38 U38
        refine vv_aload_n X 0 rfl rfl dX8_findMostGained_41 ?_
        refine vv_getr (Nf := 9) (ref := (TX8 6).1) X (by decide) sh_90 rfl 6 (by decide) u_X8_findMostGained_8 k_X8_findMostGained_48 rfl rfl dX8_findMostGained_42 ?_
        refine vv_iload_n X 2 rfl rfl dX8_findMostGained_45 ?_
        refine vv_aload_n X 0 rfl rfl dX8_findMostGained_46 ?_
        refine vv_getr (Nf := 9) (ref := (TX8 8).1) X (by decide) sh_90 rfl 8 (by decide) u_X8_findMostGained_8 k_X8_findMostGained_59 rfl rfl dX8_findMostGained_47 ?_
        refine vv_callVV (As := [.int (zI x), .ref (ad 104)]) (st := []) (Nf := 7) X 2 (c_X0_tellGain l D cA had Mc38 x (by omega)  (cr.1) (cr.2) (cw.1) (cw.2) (cp) (cv)) gX8_findMostGained_X0_tellGain rfl (by decide +kernel) ⟨by decide, by decide⟩ (Nat.le_of_ble_eq_true rfl) ⟨by decide, by decide⟩ rfl (by decide) sh_100 rfl rfl dX8_findMostGained_50 (fun Mc50 q_50 => ?_)
        have eg : Mc38 100 5 * Mc38 101 (Mc38 100 3).toNat + Mc38 100 6 * Mc38 101 (Mc38 100 4).toNat - (Mc38 100 5 + Mc38 100 6) * Mc38 101 x.toNat = gN (cvl M) x (Mc38 100 3) (Mc38 100 4) := by
          rw [cN, cD, cx]
          rfl
        rw [eg, cD] at q_50
        have g1 : Mc50 104 0 = frA (gN (cvl M) x (Mc38 100 3) (Mc38 100 4)) (eD x (Mc38 100 3) (Mc38 100 4)) := by rw [q_50, up2_m _ _ _ (by decide), up2_s]
        have g2 : Mc50 104 1 = frB (gN (cvl M) x (Mc38 100 3) (Mc38 100 4)) (eD x (Mc38 100 3) (Mc38 100 4)) := by rw [q_50, up2_s]
        have g3 : Mc50 103 = M_27 103 := by rw [q_50, up2_n _ _ _ (by decide), up2_n _ _ _ (by decide), E38 103 (by decide)]
        have g4 : Mc50 100 2 = M_27 100 2 := by rw [q_50, up2_n _ _ _ (by decide), up2_n _ _ _ (by decide)]; exact C38
        have g5 : eqx Mc11 Mc50 [100, 103, 104] := by
          rw [q_50]
          exact eqx_up _ _ (eqx_up _ _ (eqx_tr hE (eqx_mono E38 (by decide))) (by decide)) (by decide)
        have gb := gain_b hvl (show 1 ≤ x ∧ x ≤ 99 by omega) hBx
        rw [← g1, ← g2] at gb
        have g6 : Mc50 103 0 = M_27 103 0 := by rw [g3]
        have g7 : Mc50 103 1 = M_27 103 1 := by rw [g3]
        refine vv_aload_n X 0 rfl rfl dX8_findMostGained_53 ?_
        refine vv_getr (Nf := 9) (ref := (TX8 8).1) X (by decide) sh_90 rfl 8 (by decide) u_X8_findMostGained_8 k_X8_findMostGained_59 rfl rfl dX8_findMostGained_54 ?_
        refine vv_aload_n X 0 rfl rfl dX8_findMostGained_57 ?_
        refine vv_getr (Nf := 9) (ref := (TX8 7).1) X (by decide) sh_90 rfl 7 (by decide) u_X8_findMostGained_8 k_X8_findMostGained_55 rfl rfl dX8_findMostGained_58 ?_
        refine vv_callVI (As := [.ref (ad 103)]) (st := []) (Nf := 2) X 1 (c_X1_isAbove l D cA had Mc50 (by omega) (by omega) (by rw [g6]; omega) (by rw [g7]; omega)) gX8_findMostGained_X1_isAbove rfl (by decide +kernel) ⟨by decide, by decide⟩ (Nat.le_of_ble_eq_true rfl) ⟨by decide, by decide⟩ rfl (by decide) sh_104 rfl rfl dX8_findMostGained_61 (fun z61 Mc61 q_61 => ?_)
        obtain ⟨e_z61, g_z61⟩ := q_61
        have g_z61 := g_z61.symm
        subst g_z61
        refine vv_if_eq (tgt := 90) X (by rw [e_z61]; split <;> omega) dX8_findMostGained_64 (by decide) (fun c_64 => ?_) (fun c_64 => ?_)
        · skip
          have hcmp : ¬ M_27 103 0 * Mc50 104 1 < Mc50 104 0 * M_27 103 1 := fun q => by rw [g6, g7, if_pos q] at e_z61; omega
          refine vv_iinc (lv' := [(2, .int (zI (x + 1))), (0, .ref (ad 90)), (1, .int (zI f))]) X 2 rfl (by decide) rfl dX8_findMostGained_90 ?_
          refine vv_goto (tgt := 27) X (by decide) dX8_findMostGained_93 ?_
          refine vv_sub (lv' := [(0, .ref (ad 90)), (1, .int (zI f)), (2, .int (zI (x + 1)))]) [1, 2, 0] rfl ?_
          exact ih_27 Mc50 f (x + 1) (by omega) g5 (g4.trans hC) (by
            refine Or.inr ⟨by omega, ?_⟩
            rw [g6, g7]
            rw [g1, g2] at hcmp
            rcases hI with ⟨i1, i2, i3, i4⟩ | ⟨_, i2⟩
            · rw [i3, i4] at hcmp
              rw [i3, i4, i2]
              rw [i1] at hcmp hBx ⊢
              have z := MGR_zero hvl hBx hcmp
              have y := MGR_first hvl hBx
              rw [z.1, z.2] at y
              exact y
            · exact MGR_no hvl i2 (by omega) hBx hcmp) (by omega)
        · skip
          have hcmp : M_27 103 0 * Mc50 104 1 < Mc50 104 0 * M_27 103 1 := Classical.byContradiction fun q => by rw [g6, g7, if_neg q] at e_z61; omega
          have hlow := fr_low (a := gN (cvl M) x (Mc38 100 3) (Mc38 100 4)) (b := eD x (Mc38 100 3) (Mc38 100 4)) (by have := gain_b hvl (show 1 ≤ x ∧ x ≤ 99 by omega) hBx; omega)
          refine vv_iload_n X 2 rfl rfl dX8_findMostGained_67 ?_
          refine vv_istore_n (lv' := [(1, .int (zI x)), (0, .ref (ad 90)), (2, .int (zI x))]) X rfl (by decide) rfl dX8_findMostGained_68 ?_
          refine vv_aload_n X 1 rfl rfl dX8_findMostGained_69 ?_
          refine vv_getr (Nf := 9) (ref := (TX8 7).1) X (by decide) sh_90 rfl 7 (by decide) u_X8_findMostGained_8 k_X8_findMostGained_55 rfl rfl dX8_findMostGained_70 ?_
          refine vv_aload_n X 1 rfl rfl dX8_findMostGained_73 ?_
          refine vv_getr (Nf := 9) (ref := (TX8 8).1) X (by decide) sh_90 rfl 8 (by decide) u_X8_findMostGained_8 k_X8_findMostGained_59 rfl rfl dX8_findMostGained_74 ?_
          refine vv_geti (Nf := 2) (ref := (TX1 0).1) (z := (Mc50 104 0)) X (by decide) sh_104 rfl 0 (by decide) u_X8_findMostGained_1 k_X8_findMostGained_146 rfl rfl (rfl) dX8_findMostGained_77 ?_
          refine vv_aload_n X 1 rfl rfl dX8_findMostGained_80 ?_
          refine vv_getr (Nf := 9) (ref := (TX8 8).1) X (by decide) sh_90 rfl 8 (by decide) u_X8_findMostGained_8 k_X8_findMostGained_59 rfl rfl dX8_findMostGained_81 ?_
          refine vv_geti (Nf := 2) (ref := (TX1 1).1) (z := (Mc50 104 1)) X (by decide) sh_104 rfl 1 (by decide) u_X8_findMostGained_1 k_X8_findMostGained_151 rfl rfl (rfl) dX8_findMostGained_84 ?_
          refine vv_callVV (As := [.int (zI (Mc50 104 0)), .int (zI (Mc50 104 1))]) (st := []) (Nf := 2) X 2 (c_X1_become_103 l D cA had Mc50 (Mc50 104 0) (Mc50 104 1) (by omega) (by omega) (by omega)) gX8_findMostGained_X1_become rfl (by decide +kernel) ⟨by decide, by decide⟩ (Nat.le_of_ble_eq_true rfl) ⟨by decide, by decide⟩ rfl (by decide) sh_103 rfl rfl dX8_findMostGained_87 (fun Mc87 q_87 => ?_)
          have q_87 := q_87.symm
          subst q_87
          refine vv_iinc (lv' := [(2, .int (zI (x + 1))), (1, .int (zI x)), (0, .ref (ad 90))]) X 2 rfl (by decide) rfl dX8_findMostGained_90 ?_
          refine vv_goto (tgt := 27) X (by decide) dX8_findMostGained_93 ?_
          refine vv_sub (lv' := [(0, .ref (ad 90)), (1, .int (zI x)), (2, .int (zI (x + 1)))]) [2, 1, 0] rfl ?_
          exact ih_27 (up2 (up2 Mc50 103 0 (frA (Mc50 104 0) (Mc50 104 1))) 103 1 (frB (Mc50 104 0) (Mc50 104 1))) x (x + 1) (by omega) (eqx_up _ _ (eqx_up _ _ g5 (by decide)) (by decide)) (by rw [up2_n _ _ _ (by decide), up2_n _ _ _ (by decide)]; exact g4.trans hC) (by
            refine Or.inr ⟨by omega, ?_⟩
            rw [up2_s, up2_m _ _ _ (by decide), up2_s, g1, g2, hlow.1, hlow.2]
            rw [g1, g2] at hcmp
            rcases hI with ⟨i1, i2, i3, i4⟩ | ⟨_, i2⟩
            · rw [i1] at hBx ⊢
              exact MGR_first hvl hBx
            · exact MGR_yes hvl i2 (by omega) hBx hcmp) (by omega)
  refine vv_sub (lv' := [(0, .ref (ad 90)), (1, .int (zI 1)), (2, .int (zI 1))]) [2, 1, 0] rfl ?_
  exact loop_27 _ (up2 (up2 Mc11 103 0 (frA 0 1)) 103 1 (frB 0 1)) 1 1 (by omega) (eqx_up _ _ (eqx_up _ _ (eqx_rf _ _) (by decide)) (by decide)) rfl (Or.inl ⟨rfl, rfl, by rw [up2_m _ _ _ (by decide), up2_s]; decide, by rw [up2_s]; decide⟩) (Nat.lt_succ_self _)
theorem u_X8_mostGained_1 : ∀ w ∈ u_ws RX1 TX1 2, w ∈ wsX8_mostGained := by decide +kernel
theorem u_X8_mostGained_8 : ∀ w ∈ u_ws RX8 TX8 9, w ∈ wsX8_mostGained := by decide +kernel
theorem k_X8_mostGained_55 : Cond.fieldLink yX8_mostGained.cls 55 (TX8 7).1 (TX8 7).2.1 (TX8 7).2.2.1 ∈ wsX8_mostGained := by decide +kernel
theorem k_X8_mostGained_146 : Cond.fieldLink yX8_mostGained.cls 146 (TX1 0).1 (TX1 0).2.1 (TX1 0).2.2.1 ∈ wsX8_mostGained := by decide +kernel
theorem k_X8_mostGained_151 : Cond.fieldLink yX8_mostGained.cls 151 (TX1 1).1 (TX1 1).2.1 (TX1 1).2.2.1 ∈ wsX8_mostGained := by decide +kernel
set_option maxRecDepth 100000 in
set_option maxHeartbeats 4000000 in
theorem c_X8_mostGained (l : Launch) (D : va_G) {ad : Nat → Nat} (cA : Nat → ClassId) (had : adok ad) (M : Mem) (w : Int) (hw : -2147483648 ≤ w ∧ w ≤ 2147483647) (hw : WF (vC M 0)) : CtI l yX8_mostGained wsX8_mostGained 5 114 D ad cA [.ref (ad 90), .int (zI w)] M (fun z M1 => qMG w (vC M 0) z ∧ eqx M M1 [100, 101, 102, 103, 104]) := by
  refine CtI.of (cc := cX8_mostGained) (maxL := 3) (ret := (some .int)) had (by decide) rfl (Nat.le_of_ble_eq_true rfl) ?_
  intro p e s m args below meth c X hm
  show VV p l e { frames := 5, cells := 0, slots := 0, locals := 114 } s m args below meth c 3 D ad cA (Afr ad s.heap.size) 0 0 (QI below args s D ad cA (fun z M1 => qMG w (vC M 0) z ∧ eqx M M1 [100, 101, 102, 103, 104])) M 0 [(0, .ref (ad 90)), (1, .int (zI w))] []
  have hsm : 1 ≤ M 6 2 ∧ M 6 2 ≤ 6 := WFs_pos hw.2.2
  have hwb : ∀ k : Nat, (k : Int) < M 6 2 → (1 ≤ M 7 k ∧ M 7 k ≤ 999) ∧ (0 ≤ M 8 k ∧ M 8 k ≤ 100) := fun k hk => WFs_b hw.2.2 hk
  have hW : cWR M := hw.2.1
  have hn5 : 0 ≤ M 1 4 ∧ M 1 4 ≤ 5 := by
    have q1 := hW.2.1
    have q2 := hW.1
    omega
  have hp9 : 1 ≤ M 0 2 ∧ M 0 2 ≤ 99 := hw.1
  refine vv_iload_n X 1 rfl rfl dX8_mostGained_0 ?_
  refine vv_if_lt (tgt := 9) X (by omega) dX8_mostGained_1 (by decide) (fun c_1 => ?_) (fun c_1 => ?_)
  · skip
    refine vv_bipush (n := (-2)) X (by decide) dX8_mostGained_9 ?_
    exact vv_iret X hm (⟨⟨fun _ => rfl, fun q => by omega⟩, eqx_rf _ _⟩) dX8_mostGained_11
  · skip
    refine vv_iload_n X 1 rfl rfl dX8_mostGained_4 ?_
    refine vv_iconst (n := 2) X dX8_mostGained_5 ?_
    refine vv_icmp_le (tgt := 12) X (by omega) (by omega) dX8_mostGained_6 (by decide) (fun c_6 => ?_) (fun c_6 => ?_)
    · skip
      refine vv_aload_n X 0 rfl rfl dX8_mostGained_12 ?_
      refine vv_callVI (As := []) (st := []) (Nf := 9) X 0 (c_X8_findMostGained l D cA had M (by assumption)) gX8_mostGained_X8_findMostGained rfl (by decide +kernel) ⟨by decide, by decide⟩ (Nat.le_of_ble_eq_true rfl) ⟨by decide, by decide⟩ rfl (by decide) sh_90 rfl rfl dX8_mostGained_13 (fun z13 Mc13 q_13 => ?_)
      obtain ⟨hM, hE⟩ := q_13
      have hMr := MGb hW hM
      refine vv_istore_n (lv' := [(2, .int (zI z13)), (0, .ref (ad 90)), (1, .int (zI w))]) X rfl (by decide) rfl dX8_mostGained_16 ?_
      refine vv_iload_n X 2 rfl rfl dX8_mostGained_17 ?_
      by_cases c_18_0 : w = 0
      · skip
        refine vv_look (tgt := 44) (off := 26) X (by omega) dX8_mostGained_18 (by decide) (by rw [c_18_0]; decide) (by decide) ?_
        refine vv_iload_n X 0 rfl rfl dX8_mostGained_44 ?_
        exact vv_iret X hm (⟨⟨fun q => absurd (show 0 ≤ w ∧ w ≤ 2 by omega) q, fun _ => ⟨z13, Mc13 103 0, Mc13 103 1, hM, fun q => by first | (exfalso; omega) | rfl, fun q => by first | (exfalso; omega) | rfl, fun q => by first | (exfalso; omega) | rfl⟩⟩, hE⟩) dX8_mostGained_45
      by_cases c_18_1 : w = 1
      · skip
        refine vv_look (tgt := 46) (off := 28) X (by omega) dX8_mostGained_18 (by decide) (by rw [c_18_1]; decide) (by decide) ?_
        refine vv_aload_n X 1 rfl rfl dX8_mostGained_46 ?_
        refine vv_getr (Nf := 9) (ref := (TX8 7).1) X (by decide) sh_90 rfl 7 (by decide) u_X8_mostGained_8 k_X8_mostGained_55 rfl rfl dX8_mostGained_47 ?_
        refine vv_geti (Nf := 2) (ref := (TX1 0).1) (z := (Mc13 103 0)) X (by decide) sh_103 rfl 0 (by decide) u_X8_mostGained_1 k_X8_mostGained_146 rfl rfl (rfl) dX8_mostGained_50 ?_
        exact vv_iret X hm (⟨⟨fun q => absurd (show 0 ≤ w ∧ w ≤ 2 by omega) q, fun _ => ⟨z13, Mc13 103 0, Mc13 103 1, hM, fun q => by first | (exfalso; omega) | rfl, fun q => by first | (exfalso; omega) | rfl, fun q => by first | (exfalso; omega) | rfl⟩⟩, hE⟩) dX8_mostGained_53
      refine vv_look (tgt := 54) (off := 36) X (by omega) dX8_mostGained_18 (by decide) (by simp only [Op.lookupswitch.offset_cons, Op.lookupswitch.offset]; (repeat' split) <;> omega) (by decide) ?_
      refine vv_aload_n X 1 rfl rfl dX8_mostGained_54 ?_
      refine vv_getr (Nf := 9) (ref := (TX8 7).1) X (by decide) sh_90 rfl 7 (by decide) u_X8_mostGained_8 k_X8_mostGained_55 rfl rfl dX8_mostGained_55 ?_
      refine vv_geti (Nf := 2) (ref := (TX1 1).1) (z := (Mc13 103 1)) X (by decide) sh_103 rfl 1 (by decide) u_X8_mostGained_1 k_X8_mostGained_151 rfl rfl (rfl) dX8_mostGained_58 ?_
      exact vv_iret X hm (⟨⟨fun q => absurd (show 0 ≤ w ∧ w ≤ 2 by omega) q, fun _ => ⟨z13, Mc13 103 0, Mc13 103 1, hM, fun q => by first | (exfalso; omega) | rfl, fun q => by first | (exfalso; omega) | rfl, fun q => by first | (exfalso; omega) | rfl⟩⟩, hE⟩) dX8_mostGained_61
    · skip
      refine vv_bipush (n := (-2)) X (by decide) dX8_mostGained_9 ?_
      exact vv_iret X hm (⟨⟨fun _ => rfl, fun q => by omega⟩, eqx_rf _ _⟩) dX8_mostGained_11
theorem u_X8_wipe_4 : ∀ w ∈ u_ws RX4 TX4 6, w ∈ wsX8_wipe := by decide +kernel
theorem u_X8_wipe_8 : ∀ w ∈ u_ws RX8 TX8 9, w ∈ wsX8_wipe := by decide +kernel
theorem k_X8_wipe_34 : Cond.fieldLink yX8_wipe.cls 34 (TX8 4).1 (TX8 4).2.1 (TX8 4).2.2.1 ∈ wsX8_wipe := by decide +kernel
theorem k_X8_wipe_174 : Cond.fieldLink yX8_wipe.cls 174 (TX4 2).1 (TX4 2).2.1 (TX4 2).2.2.1 ∈ wsX8_wipe := by decide +kernel
set_option maxRecDepth 100000 in
set_option maxHeartbeats 4000000 in
theorem c_X8_wipe (l : Launch) (D : va_G) {ad : Nat → Nat} (cA : Nat → ClassId) (had : adok ad) (M : Mem) : CtI l yX8_wipe wsX8_wipe 0 0 D ad cA [.ref (ad 90)] M (fun z M1 => z = M 95 2 ∧ M1 = up2 M 95 2 0) := by
  refine CtI.of (cc := cX8_wipe) (maxL := 2) (ret := (some .int)) had (by decide) rfl (Nat.le_of_ble_eq_true rfl) ?_
  intro p e s m args below meth c X hm
  show VV p l e { frames := 0, cells := 0, slots := 0, locals := 0 } s m args below meth c 2 D ad cA (Afr ad s.heap.size) 0 0 (QI below args s D ad cA (fun z M1 => z = M 95 2 ∧ M1 = up2 M 95 2 0)) M 0 [(0, .ref (ad 90))] []
  refine vv_aload_n X 0 rfl rfl dX8_wipe_0 ?_
  refine vv_getr (Nf := 9) (ref := (TX8 4).1) X (by decide) sh_90 rfl 4 (by decide) u_X8_wipe_8 k_X8_wipe_34 rfl rfl dX8_wipe_1 ?_
  refine vv_geti (Nf := 6) (ref := (TX4 2).1) (z := (M 95 2)) X (by decide) sh_95 rfl 2 (by decide) u_X8_wipe_4 k_X8_wipe_174 rfl rfl (rfl) dX8_wipe_4 ?_
  refine vv_istore_n (lv' := [(1, .int (zI (M 95 2))), (0, .ref (ad 90))]) X rfl (by decide) rfl dX8_wipe_7 ?_
  refine vv_aload_n X 1 rfl rfl dX8_wipe_8 ?_
  refine vv_getr (Nf := 9) (ref := (TX8 4).1) X (by decide) sh_90 rfl 4 (by decide) u_X8_wipe_8 k_X8_wipe_34 rfl rfl dX8_wipe_9 ?_
  refine vv_iconst (n := 0) X dX8_wipe_12 ?_
  refine vv_puti (Nf := 6) (ref := (TX4 2).1) X (by decide) sh_95 rfl 2 (by decide) u_X8_wipe_4 k_X8_wipe_174 rfl tyX4_ok nmX4 rfl (by decide +kernel) rfl rfl dX8_wipe_13 ?_
  refine vv_iload_n X 0 rfl rfl dX8_wipe_16 ?_
  exact vv_iret X hm (⟨rfl, rfl⟩) dX8_wipe_17
theorem u_X8_undo_2 : ∀ w ∈ u_ws RX2 TX2 3, w ∈ wsX8_undo := by decide +kernel
theorem u_X8_undo_8 : ∀ w ∈ u_ws RX8 TX8 9, w ∈ wsX8_undo := by decide +kernel
theorem k_X8_undo_10 : Cond.fieldLink yX8_undo.cls 10 (TX8 0).1 (TX8 0).2.1 (TX8 0).2.2.1 ∈ wsX8_undo := by decide +kernel
theorem k_X8_undo_19 : Cond.fieldLink yX8_undo.cls 19 (TX8 1).1 (TX8 1).2.1 (TX8 1).2.2.1 ∈ wsX8_undo := by decide +kernel
theorem k_X8_undo_177 : Cond.fieldLink yX8_undo.cls 177 (TX2 2).1 (TX2 2).2.1 (TX2 2).2.2.1 ∈ wsX8_undo := by decide +kernel
set_option maxRecDepth 100000 in
set_option maxHeartbeats 4000000 in
theorem c_X8_undo (l : Launch) (D : va_G) {ad : Nat → Nat} (cA : Nat → ClassId) (had : adok ad) (M : Mem) (hH : HI M) (hwh : 0 < M 91 2 → WF (hvC M 0)) : CtI l yX8_undo wsX8_undo 4 103 D ad cA [.ref (ad 90)] M (fun z M1 => (M 91 2 = 0 → z = -5 ∧ M1 = M) ∧ (0 < M 91 2 → z = M1 91 2 ∧ POP (M 91 2) (hvC M) (vC M1 0) (M1 91 2) (hvC M1) ∧ HI M1 ∧ KP (M 95 2) M M1) ∧ M1 95 = M 95) := by
  refine CtI.of (cc := cX8_undo) (maxL := 1) (ret := (some .int)) had (by decide) rfl (Nat.le_of_ble_eq_true rfl) ?_
  intro p e s m args below meth c X hm
  show VV p l e { frames := 4, cells := 0, slots := 0, locals := 103 } s m args below meth c 1 D ad cA (Afr ad s.heap.size) 0 0 (QI below args s D ad cA (fun z M1 => (M 91 2 = 0 → z = -5 ∧ M1 = M) ∧ (0 < M 91 2 → z = M1 91 2 ∧ POP (M 91 2) (hvC M) (vC M1 0) (M1 91 2) (hvC M1) ∧ HI M1 ∧ KP (M 95 2) M M1) ∧ M1 95 = M 95)) M 0 [(0, .ref (ad 90))] []
  have hH1 := hH.1
  have hH2 := hH.2
  refine vv_aload_n X 0 rfl rfl dX8_undo_0 ?_
  refine vv_getr (Nf := 9) (ref := (TX8 1).1) X (by decide) sh_90 rfl 1 (by decide) u_X8_undo_8 k_X8_undo_19 rfl rfl dX8_undo_1 ?_
  refine vv_geti (Nf := 3) (ref := (TX2 2).1) (z := (M 91 2)) X (by decide) sh_91 rfl 2 (by decide) u_X8_undo_2 k_X8_undo_177 rfl rfl (rfl) dX8_undo_4 ?_
  refine vv_if_ne (tgt := 13) X (by omega) dX8_undo_7 (by decide) (fun c_7 => ?_) (fun c_7 => ?_)
  · skip
    obtain ⟨d, hd⟩ : ∃ d : Nat, (d : Int) = (if 0 < M 91 1 then M 91 1 - 1 else 6) + 3 := ⟨((if 0 < M 91 1 then M 91 1 - 1 else 6) + 3).toNat, by split <;> omega⟩
    have hd10 : d < 10 := by split at hd <;> omega
    refine vv_aload_n X 0 rfl rfl dX8_undo_13 ?_
    refine vv_getr (Nf := 9) (ref := (TX8 1).1) X (by decide) sh_90 rfl 1 (by decide) u_X8_undo_8 k_X8_undo_19 rfl rfl dX8_undo_14 ?_
    refine vv_aload_n X 0 rfl rfl dX8_undo_17 ?_
    refine vv_getr (Nf := 9) (ref := (TX8 0).1) X (by decide) sh_90 rfl 0 (by decide) u_X8_undo_8 k_X8_undo_10 rfl rfl dX8_undo_18 ?_
    refine vv_callVV (As := [.ref (ad 0)]) (st := []) (Nf := 3) X 1 (c_X2_takeBack l D cA had M d (hd10) (hd) (hH1) (by omega)) gX8_undo_X2_takeBack rfl (by decide +kernel) ⟨by decide, by decide⟩ (Nat.le_of_ble_eq_true rfl) ⟨by decide, by decide⟩ rfl (by decide) sh_91 rfl rfl dX8_undo_21 (fun Mc21 q_21 => ?_)
    refine vv_aload_n X 0 rfl rfl dX8_undo_24 ?_
    refine vv_getr (Nf := 9) (ref := (TX8 1).1) X (by decide) sh_90 rfl 1 (by decide) u_X8_undo_8 k_X8_undo_19 rfl rfl dX8_undo_25 ?_
    refine vv_geti (Nf := 3) (ref := (TX2 2).1) (z := (Mc21 91 2)) X (by decide) sh_91 rfl 2 (by decide) u_X8_undo_2 k_X8_undo_177 rfl rfl (rfl) dX8_undo_28 ?_
    exact vv_iret X hm (⟨fun q => by omega, fun q => ⟨rfl, pop_of hH q hd (hwh q) q_21⟩, (q_21.1 95 (by omega)).trans (by rw [up2_n _ _ _ (by decide), up2_n _ _ _ (by decide)])⟩) dX8_undo_31
  · skip
    refine vv_bipush (n := (-5)) X (by decide) dX8_undo_10 ?_
    exact vv_iret X hm (⟨fun _ => ⟨rfl, rfl⟩, fun q => by omega, rfl⟩) dX8_undo_12
theorem u_X8_save_7 : ∀ w ∈ u_ws RX7 TX7 3, w ∈ wsX8_save := by decide +kernel
theorem u_X8_save_8 : ∀ w ∈ u_ws RX8 TX8 9, w ∈ wsX8_save := by decide +kernel
theorem k_X8_save_10 : Cond.fieldLink yX8_save.cls 10 (TX8 0).1 (TX8 0).2.1 (TX8 0).2.2.1 ∈ wsX8_save := by decide +kernel
theorem k_X8_save_23 : Cond.fieldLink yX8_save.cls 23 (TX8 2).1 (TX8 2).2.1 (TX8 2).2.2.1 ∈ wsX8_save := by decide +kernel
theorem k_X8_save_27 : Cond.fieldLink yX8_save.cls 27 (TX8 3).1 (TX8 3).2.1 (TX8 3).2.2.1 ∈ wsX8_save := by decide +kernel
theorem k_X8_save_158 : Cond.fieldLink yX8_save.cls 158 (TX7 2).1 (TX7 2).2.1 (TX7 2).2.2.1 ∈ wsX8_save := by decide +kernel
set_option maxRecDepth 100000 in
set_option maxHeartbeats 4000000 in
theorem c_X8_save (l : Launch) (D : va_G) {ad : Nat → Nat} (cA : Nat → ClassId) (had : adok ad) (M : Mem) (x : Int) (hx : -2147483648 ≤ x ∧ x ≤ 2147483647) : CtI l yX8_save wsX8_save 3 82 D ad cA [.ref (ad 90), .int (zI x)] M (fun z M1 => (¬ (0 ≤ x ∧ x < 2) → z = -2 ∧ M1 = M) ∧ (0 ≤ x ∧ x < 2 → z = M 0 2 ∧ ∃ Ma : Mem, cpG M Ma (x.toNat + 1) 0 ∧ M1 = up2 Ma 94 x.toNat 1)) := by
  refine CtI.of (cc := cX8_save) (maxL := 2) (ret := (some .int)) had (by decide) rfl (Nat.le_of_ble_eq_true rfl) ?_
  intro p e s m args below meth c X hm
  show VV p l e { frames := 3, cells := 0, slots := 0, locals := 82 } s m args below meth c 2 D ad cA (Afr ad s.heap.size) 0 0 (QI below args s D ad cA (fun z M1 => (¬ (0 ≤ x ∧ x < 2) → z = -2 ∧ M1 = M) ∧ (0 ≤ x ∧ x < 2 → z = M 0 2 ∧ ∃ Ma : Mem, cpG M Ma (x.toNat + 1) 0 ∧ M1 = up2 Ma 94 x.toNat 1))) M 0 [(0, .ref (ad 90)), (1, .int (zI x))] []
  refine vv_iload_n X 1 rfl rfl dX8_save_0 ?_
  refine vv_callSI (As := [.int (zI x)]) (st := []) X 1 (c_X8_isSlot l D cA had M x (by omega)) gX8_save_X8_isSlot rfl (by decide +kernel) ⟨by decide, by decide⟩ (Nat.le_of_ble_eq_true rfl) ⟨by decide, by decide⟩ rfl rfl dX8_save_1 (fun z1 Mc1 q_1 => ?_)
  obtain ⟨e_z1, g_z1⟩ := q_1
  have g_z1 := g_z1.symm
  subst g_z1
  refine vv_if_ne (tgt := 10) X (by rw [e_z1]; split <;> omega) dX8_save_4 (by decide) (fun c_4 => ?_) (fun c_4 => ?_)
  · skip
    have hin : 0 ≤ x ∧ x < 2 := Classical.byContradiction fun q => by rw [if_neg q] at e_z1; omega
    obtain ⟨d, hdn⟩ : ∃ d : Nat, (d : Int) = x + 1 := ⟨(x + 1).toNat, by omega⟩
    have hd : d < 10 := by omega
    refine vv_aload_n X 0 rfl rfl dX8_save_10 ?_
    refine vv_getr (Nf := 9) (ref := (TX8 2).1) X (by decide) sh_90 rfl 2 (by decide) u_X8_save_8 k_X8_save_23 rfl rfl dX8_save_11 ?_
    refine vv_iload_n X 1 rfl rfl dX8_save_14 ?_
    refine vv_aald (j := (9 * d)) X (by decide) sh_93 (by decide) (by omega) (by omega) dX8_save_15 ?_
    refine vv_aload_n X 0 rfl rfl dX8_save_16 ?_
    refine vv_getr (Nf := 9) (ref := (TX8 0).1) X (by decide) sh_90 rfl 0 (by decide) u_X8_save_8 k_X8_save_10 rfl rfl dX8_save_17 ?_
    refine vv_callVV (As := [.ref (ad 0)]) (st := []) (Nf := 3) X 1 (c_X7_copyFrom l D cA had M d 0 (by omega) (by omega) (by omega)) gX8_save_X7_copyFrom rfl (by decide +kernel) ⟨by decide, by decide⟩ (Nat.le_of_ble_eq_true rfl) ⟨by decide, by decide⟩ rfl (by omega) (sh_g0 hd) rfl rfl dX8_save_20 (fun Mc20 q_20 => ?_)
    have e02 : Mc20 0 2 = M 0 2 := by rw [q_20.1 0 (by omega)]
    refine vv_aload_n X 0 rfl rfl dX8_save_23 ?_
    refine vv_getr (Nf := 9) (ref := (TX8 3).1) X (by decide) sh_90 rfl 3 (by decide) u_X8_save_8 k_X8_save_27 rfl rfl dX8_save_24 ?_
    refine vv_iload_n X 1 rfl rfl dX8_save_27 ?_
    refine vv_iconst (n := 1) X dX8_save_28 ?_
    refine vv_zast (ix := (Int.toNat x)) X (by decide) sh_94 (by decide) (by omega) (rfl) (by decide) dX8_save_29 ?_
    refine vv_aload_n X 0 rfl rfl dX8_save_30 ?_
    refine vv_getr (Nf := 9) (ref := (TX8 0).1) X (by decide) sh_90 rfl 0 (by decide) u_X8_save_8 k_X8_save_10 rfl rfl dX8_save_31 ?_
    refine vv_geti (Nf := 3) (ref := (TX7 2).1) (z := (Mc20 0 2)) X (by decide) sh_0 rfl 2 (by decide) u_X8_save_7 k_X8_save_158 rfl rfl (rfl) dX8_save_34 ?_
    exact vv_iret X hm (⟨fun q => absurd hin q, fun _ => ⟨e02, Mc20, by rw [show x.toNat + 1 = d by omega]; exact q_20, rfl⟩⟩) dX8_save_37
  · skip
    have hin : ¬ (0 ≤ x ∧ x < 2) := fun q => by rw [if_pos q] at e_z1; omega
    refine vv_bipush (n := (-2)) X (by decide) dX8_save_7 ?_
    exact vv_iret X hm (⟨fun _ => ⟨rfl, rfl⟩, fun q => absurd q hin⟩) dX8_save_9
theorem u_X8_restore_7 : ∀ w ∈ u_ws RX7 TX7 3, w ∈ wsX8_restore := by decide +kernel
theorem u_X8_restore_8 : ∀ w ∈ u_ws RX8 TX8 9, w ∈ wsX8_restore := by decide +kernel
theorem k_X8_restore_10 : Cond.fieldLink yX8_restore.cls 10 (TX8 0).1 (TX8 0).2.1 (TX8 0).2.2.1 ∈ wsX8_restore := by decide +kernel
theorem k_X8_restore_19 : Cond.fieldLink yX8_restore.cls 19 (TX8 1).1 (TX8 1).2.1 (TX8 1).2.2.1 ∈ wsX8_restore := by decide +kernel
theorem k_X8_restore_23 : Cond.fieldLink yX8_restore.cls 23 (TX8 2).1 (TX8 2).2.1 (TX8 2).2.2.1 ∈ wsX8_restore := by decide +kernel
theorem k_X8_restore_27 : Cond.fieldLink yX8_restore.cls 27 (TX8 3).1 (TX8 3).2.1 (TX8 3).2.2.1 ∈ wsX8_restore := by decide +kernel
theorem k_X8_restore_158 : Cond.fieldLink yX8_restore.cls 158 (TX7 2).1 (TX7 2).2.1 (TX7 2).2.2.1 ∈ wsX8_restore := by decide +kernel
set_option maxRecDepth 100000 in
set_option maxHeartbeats 4000000 in
theorem c_X8_restore (l : Launch) (D : va_G) {ad : Nat → Nat} (cA : Nat → ClassId) (had : adok ad) (M : Mem) (x : Int) (hx : -2147483648 ≤ x ∧ x ≤ 2147483647) (hH : HI M) (hw : WF (vC M 0)) (hws : 0 ≤ x → x < 2 → M 94 x.toNat ≠ 0 → WF (vC M (x.toNat + 1))) (hbs : ∀ k, k < 2 → 0 ≤ M 94 k ∧ M 94 k ≤ 1) : CtI l yX8_restore wsX8_restore 4 103 D ad cA [.ref (ad 90), .int (zI x)] M (fun z M1 => (¬ (0 ≤ x ∧ x < 2) → z = -2 ∧ M1 = M) ∧ (0 ≤ x ∧ x < 2 → (M 94 x.toNat = 0 → z = -5 ∧ M1 = M) ∧ (M 94 x.toNat ≠ 0 → cChg (opC (vC M (x.toNat + 1))) (M 95 2) M z M1 ∧ M1 95 = M 95))) := by
  refine CtI.of (cc := cX8_restore) (maxL := 2) (ret := (some .int)) had (by decide) rfl (Nat.le_of_ble_eq_true rfl) ?_
  intro p e s m args below meth c X hm
  show VV p l e { frames := 4, cells := 0, slots := 0, locals := 103 } s m args below meth c 2 D ad cA (Afr ad s.heap.size) 0 0 (QI below args s D ad cA (fun z M1 => (¬ (0 ≤ x ∧ x < 2) → z = -2 ∧ M1 = M) ∧ (0 ≤ x ∧ x < 2 → (M 94 x.toNat = 0 → z = -5 ∧ M1 = M) ∧ (M 94 x.toNat ≠ 0 → cChg (opC (vC M (x.toNat + 1))) (M 95 2) M z M1 ∧ M1 95 = M 95)))) M 0 [(0, .ref (ad 90)), (1, .int (zI x))] []
  have hsm : 1 ≤ M 6 2 ∧ M 6 2 ≤ 6 := WFs_pos hw.2.2
  have hwb : ∀ k : Nat, (k : Int) < M 6 2 → (1 ≤ M 7 k ∧ M 7 k ≤ 999) ∧ (0 ≤ M 8 k ∧ M 8 k ≤ 100) := fun k hk => WFs_b hw.2.2 hk
  have hW : cWR M := hw.2.1
  have hn5 : 0 ≤ M 1 4 ∧ M 1 4 ≤ 5 := by
    have q1 := hW.2.1
    have q2 := hW.1
    omega
  have hp9 : 1 ≤ M 0 2 ∧ M 0 2 ≤ 99 := hw.1
  obtain ⟨d, hdn⟩ : ∃ d : Nat, (d : Int) = M 91 1 + 3 := ⟨(M 91 1 + 3).toNat, by have := hH.1; omega⟩
  have hd : d < 10 := by have := hH.1; omega
  have hH1 := hH.1
  have hH2 := hH.2
  refine vv_iload_n X 1 rfl rfl dX8_restore_0 ?_
  refine vv_callSI (As := [.int (zI x)]) (st := []) X 1 (c_X8_isSlot l D cA had M x (by omega)) gX8_restore_X8_isSlot rfl (by decide +kernel) ⟨by decide, by decide⟩ (Nat.le_of_ble_eq_true rfl) ⟨by decide, by decide⟩ rfl rfl dX8_restore_1 (fun z1 Mc1 q_1 => ?_)
  obtain ⟨e_z1, g_z1⟩ := q_1
  have g_z1 := g_z1.symm
  subst g_z1
  refine vv_if_ne (tgt := 10) X (by rw [e_z1]; split <;> omega) dX8_restore_4 (by decide) (fun c_4 => ?_) (fun c_4 => ?_)
  · skip
    have hin : 0 ≤ x ∧ x < 2 := Classical.byContradiction fun q => by rw [if_neg q] at e_z1; omega
    refine vv_aload_n X 0 rfl rfl dX8_restore_10 ?_
    refine vv_getr (Nf := 9) (ref := (TX8 3).1) X (by decide) sh_90 rfl 3 (by decide) u_X8_restore_8 k_X8_restore_27 rfl rfl dX8_restore_11 ?_
    refine vv_iload_n X 1 rfl rfl dX8_restore_14 ?_
    refine vv_zald (z := (M 94 (Int.toNat x))) X (by decide) sh_94 (by decide) (by omega) (rfl) dX8_restore_15 ?_
    have hb9 := hbs x.toNat (by omega)
    refine vv_if_ne (tgt := 22) X (by omega) dX8_restore_16 (by decide) (fun c_16 => ?_) (fun c_16 => ?_)
    · skip
      have hsw := hws hin.1 hin.2 c_16
      obtain ⟨o, hon⟩ : ∃ o : Nat, (o : Int) = x + 1 := ⟨(x + 1).toNat, by omega⟩
      have ho : o < 10 := by omega
      have eo : x.toNat + 1 = o := by omega
      rw [eo] at hsw
      refine vv_aload_n X 0 rfl rfl dX8_restore_22 ?_
      refine vv_getr (Nf := 9) (ref := (TX8 1).1) X (by decide) sh_90 rfl 1 (by decide) u_X8_restore_8 k_X8_restore_19 rfl rfl dX8_restore_23 ?_
      refine vv_aload_n X 0 rfl rfl dX8_restore_26 ?_
      refine vv_getr (Nf := 9) (ref := (TX8 0).1) X (by decide) sh_90 rfl 0 (by decide) u_X8_restore_8 k_X8_restore_10 rfl rfl dX8_restore_27 ?_
      refine vv_callVV (As := [.ref (ad 0)]) (st := []) (Nf := 3) X 1 (c_X2_note l D cA had M d (hd) (hdn) (hH1)) gX8_restore_X2_note rfl (by decide +kernel) ⟨by decide, by decide⟩ (Nat.le_of_ble_eq_true rfl) ⟨by decide, by decide⟩ rfl (by decide) sh_91 rfl rfl dX8_restore_30 (fun Ma qa => ?_)
      have e95 : Ma 95 = M 95 := qa.1 95 (by omega)
      refine vv_aload_n X 0 rfl rfl dX8_restore_33 ?_
      refine vv_getr (Nf := 9) (ref := (TX8 0).1) X (by decide) sh_90 rfl 0 (by decide) u_X8_restore_8 k_X8_restore_10 rfl rfl dX8_restore_34 ?_
      refine vv_aload_n X 0 rfl rfl dX8_restore_37 ?_
      refine vv_getr (Nf := 9) (ref := (TX8 2).1) X (by decide) sh_90 rfl 2 (by decide) u_X8_restore_8 k_X8_restore_23 rfl rfl dX8_restore_38 ?_
      refine vv_iload_n X 1 rfl rfl dX8_restore_41 ?_
      refine vv_aald (j := (9 * o)) X (by decide) sh_93 (by decide) (by omega) (by omega) dX8_restore_42 ?_
      refine vv_callVV (As := [.ref (ad (9 * o))]) (st := []) (Nf := 3) X 1 (c_X7_copyFrom l D cA had Ma 0 o (by omega) (by omega) (by omega)) gX8_restore_X7_copyFrom rfl (by decide +kernel) ⟨by decide, by decide⟩ (Nat.le_of_ble_eq_true rfl) ⟨by decide, by decide⟩ rfl (by decide) sh_0 rfl rfl dX8_restore_43 (fun Mb qb => ?_)
      have e91 : Mb 91 = M 91 := (qb.1 91 (by omega)).trans (qa.1 91 (by omega))
      have eoa : vC Ma o = vC M o := vC_eq (fun a h1 h2 => qa.1 a (by omega))
      have hso : WF (vC Ma o) := by rw [eoa]; exact hsw
      have hO : opC (vC M o) (vC Ma 0) (Mb 0 2) (vC Mb 0) := by
        have q5 : (vC Ma o).2.1 ≤ 5 := by
          have q1 := hso.2.1.2.1
          have q2 := hso.2.1.1
          omega
        have := vC_cp qb q5 (WFs_pos hso.2.2).2
        rw [eoa] at this
        exact ⟨this.1.symm, this⟩
      have hz : 1 ≤ Mb 0 2 ∧ Mb 0 2 ≤ 99 := by
        have q1 := hO.1
        have q2 := hsw.1
        omega
      refine vv_aload_n X 0 rfl rfl dX8_restore_46 ?_
      refine vv_aload_n X 0 rfl rfl dX8_restore_47 ?_
      refine vv_getr (Nf := 9) (ref := (TX8 0).1) X (by decide) sh_90 rfl 0 (by decide) u_X8_restore_8 k_X8_restore_10 rfl rfl dX8_restore_48 ?_
      refine vv_geti (Nf := 3) (ref := (TX7 2).1) (z := (Mb 0 2)) X (by decide) sh_0 rfl 2 (by decide) u_X8_restore_7 k_X8_restore_158 rfl rfl (rfl) dX8_restore_51 ?_
      refine vv_callVI (As := [.int (zI (Mb 0 2))]) (st := []) (Nf := 9) X 1 (c_X8_recorded l D cA had Mb (Mb 0 2) (by omega) (by rw [e91]; exact hH1) (by rw [e91]; exact hH2)) gX8_restore_X8_recorded rfl (by decide +kernel) ⟨by decide, by decide⟩ (Nat.le_of_ble_eq_true rfl) ⟨by decide, by decide⟩ rfl (by decide) sh_90 rfl rfl dX8_restore_54 (fun z54 Mr qr => ?_)
      exact vv_iret X hm (⟨fun q => absurd hin q, fun _ => ⟨fun q => absurd q c_16, fun _ => by
        rw [eo]
        exact ⟨chg_of (op := opC (vC M o)) hH hdn hn5.2 hsm.2 qa hO (fun a ha => qb.1 a (by omega)) (by rw [qb.1 95 (by omega), e95]) qr, (rec95 qr).trans ((qb.1 95 (by omega)).trans e95)⟩⟩⟩) dX8_restore_57
    · skip
      refine vv_bipush (n := (-5)) X (by decide) dX8_restore_19 ?_
      exact vv_iret X hm (⟨fun q => absurd hin q, fun _ => ⟨fun _ => ⟨rfl, rfl⟩, fun q => absurd (by omega) q⟩⟩) dX8_restore_21
  · skip
    have hin : ¬ (0 ≤ x ∧ x < 2) := fun q => by rw [if_pos q] at e_z1; omega
    refine vv_bipush (n := (-2)) X (by decide) dX8_restore_7 ?_
    exact vv_iret X hm (⟨fun _ => ⟨rfl, rfl⟩, fun q => absurd q hin⟩) dX8_restore_9
