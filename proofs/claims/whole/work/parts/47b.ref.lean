theorem u_X9_areAverage_9 : ∀ w ∈ u_ws RX9 TX9 20, w ∈ wsX9_areAverage := by decide +kernel
theorem k_X9_areAverage_7 : Cond.fieldLink yX9_areAverage.cls 7 (TX9 0).1 (TX9 0).2.1 (TX9 0).2.2.1 ∈ wsX9_areAverage := by decide +kernel
theorem k_X9_areAverage_25 : Cond.fieldLink yX9_areAverage.cls 25 (TX9 7).1 (TX9 7).2.1 (TX9 7).2.2.1 ∈ wsX9_areAverage := by decide +kernel
theorem k_X9_areAverage_28 : Cond.fieldLink yX9_areAverage.cls 28 (TX9 8).1 (TX9 8).2.1 (TX9 8).2.2.1 ∈ wsX9_areAverage := by decide +kernel
theorem k_X9_areAverage_72 : Cond.fieldLink yX9_areAverage.cls 72 (TX9 9).1 (TX9 9).2.1 (TX9 9).2.2.1 ∈ wsX9_areAverage := by decide +kernel
set_option maxRecDepth 100000 in
set_option maxHeartbeats 4000000 in
theorem c_X9_areAverage (l : Launch) (D : va_G) {ad : Nat → Nat} (cA : Nat → ClassId) (had : adok ad) (M : Mem) (F : Nat → Int) (hF : ∀ j, 0 ≤ F j) (hFb : ∀ j, j < 101 → F j ≤ 999) (hS : SplitOf F (M 105 9) (M 111) (M 112)) (hm : M 105 9 ≤ 6) (hp : 1 ≤ M 106 0 ∧ M 106 0 ≤ 99) : CtI l yX9_areAverage wsX9_areAverage 0 0 D ad cA [.ref (ad 105)] M (fun z M1 => z = (if sm (fun j => F j * ((j : Int) - M 106 0)) 101 = 0 then 1 else 0) ∧ M1 = M) := by
  refine CtI.of (cc := cX9_areAverage) (maxL := 3) (ret := (some .boolean)) had (by decide) rfl (Nat.le_of_ble_eq_true rfl) ?_
  intro p e s m args below meth c X hm
  show VV p l e { frames := 0, cells := 0, slots := 0, locals := 0 } s m args below meth c 3 D ad cA (Afr ad s.heap.size) 0 0 (QI below args s D ad cA (fun z M1 => z = (if sm (fun j => F j * ((j : Int) - M 106 0)) 101 = 0 then 1 else 0) ∧ M1 = M)) M 0 [(0, .ref (ad 105))] []
  have hm0 : 0 ≤ M 105 9 := by rw [hS.1]; exact (cnt_b F 101).1
  have hpr : ∀ i : Nat, (i : Int) < M 105 9 → (0 ≤ M 112 i ∧ M 112 i ≤ 100) ∧ (0 ≤ M 111 i ∧ M 111 i ≤ 999) := fun i q => by
    obtain ⟨q1, q2, q3, q4⟩ := hS.2 i q
    have := hFb (M 112 i).toNat (by omega)
    omega
  have hsm := SM_of (x := M 106 0) hS hF 101 (by decide)
  rw [← hS.1] at hsm
  refine vv_iconst (n := 0) X dX9_areAverage_0 ?_
  refine vv_istore_n (lv' := [(1, .int (zI 0)), (0, .ref (ad 105))]) X rfl (by decide) rfl dX9_areAverage_1 ?_
  refine vv_iconst (n := 0) X dX9_areAverage_2 ?_
  refine vv_istore_n (lv' := [(2, .int (zI 0)), (1, .int (zI 0)), (0, .ref (ad 105))]) X rfl (by decide) rfl dX9_areAverage_3 ?_
  have loop_4 : ∀ (n : Nat)  (k : Nat) (a1 : Int) (a2 : Int), a2 = (k : Int) → (k : Int) ≤ M 105 9 → a1 = sm (fun q => M 111 q * (M 112 q - M 106 0)) k → (M 105 9 - a2).toNat < n → VV p l e { frames := 0, cells := 0, slots := 0, locals := 0 } s m args below meth c 3 D ad cA (Afr ad s.heap.size) 0 0 (QI below args s D ad cA (fun z M1 => z = (if sm (fun j => F j * ((j : Int) - M 106 0)) 101 = 0 then 1 else 0) ∧ M1 = M)) M 4 [(0, .ref (ad 105)), (1, .int (zI a1)), (2, .int (zI a2))] [] := by
    intro n
    induction n with
    | zero => intro k a1 a2 h2 hk h1 hn; exact absurd hn (Nat.not_lt_zero _)
    | succ n ih_4 =>
      intro k a1 a2 h2 hk h1 hn
      have h6 : a2.toNat = k := by omega
      have hpk := hpr k
      have hb : -99900 * (k : Int) ≤ a1 ∧ a1 ≤ 99900 * (k : Int) := by
        have q := sm_b (f := fun q => M 111 q * (M 112 q - M 106 0)) (a := -99900) (b := 99900) (n := k) (fun q hq => by
          have := hpr q (by omega)
          have := mulS (a := M 111 q) (A := 999) (b := M 112 q - M 106 0) (B := 100) (by omega) (by omega)
          omega)
        rw [← h1] at q
        omega
      refine vv_iload_n X 2 rfl rfl dX9_areAverage_4 ?_
      refine vv_aload_n X 0 rfl rfl dX9_areAverage_5 ?_
      refine vv_geti (Nf := 20) (ref := (TX9 9).1) (z := (M 105 9)) X (by decide) sh_105 rfl 9 (by decide) u_X9_areAverage_9 k_X9_areAverage_72 rfl rfl (rfl) dX9_areAverage_6 ?_
      refine vv_icmp_ge (tgt := 41) X (by omega) (by omega) dX9_areAverage_9 (by decide) (fun c_9 => ?_) (fun c_9 => ?_)
      · skip
        refine vv_iload_n X 1 rfl rfl dX9_areAverage_41 ?_
        refine vv_if_ne (tgt := 49) X (by omega) dX9_areAverage_42 (by decide) (fun c_42 => ?_) (fun c_42 => ?_)
        · skip
          refine vv_iconst (n := 0) X dX9_areAverage_49 ?_
          exact vv_zret X hm (by omega) (by
            have ek : (M 105 9).toNat = k := by omega
            rw [ek, ← h1] at hsm
            rw [hsm]
            rw [if_neg (by omega)]
            exact ⟨rfl, rfl⟩) dX9_areAverage_50
        · skip
          refine vv_iconst (n := 1) X dX9_areAverage_45 ?_
          refine vv_goto (tgt := 50) X (by decide) dX9_areAverage_46 ?_
          exact vv_zret X hm (by omega) (by
            have ek : (M 105 9).toNat = k := by omega
            rw [ek, ← h1] at hsm
            rw [hsm]
            rw [if_pos (by omega)]
            exact ⟨rfl, rfl⟩) dX9_areAverage_50
      · skip
        have hmb := mulS (a := M 111 k) (A := 999) (b := M 112 k - M 106 0) (B := 100) (by have := hpk (by omega); omega) (by have := hpk (by omega); omega)
        refine vv_iload_n X 1 rfl rfl dX9_areAverage_12 ?_
        refine vv_aload_n X 0 rfl rfl dX9_areAverage_13 ?_
        refine vv_getr (Nf := 20) (ref := (TX9 7).1) X (by decide) sh_105 rfl 7 (by decide) u_X9_areAverage_9 k_X9_areAverage_25 rfl rfl dX9_areAverage_14 ?_
        refine vv_iload_n X 2 rfl rfl dX9_areAverage_17 ?_
        refine vv_iald (z := (M 111 k)) X (by decide) sh_111 (by decide) (by omega) (by first | (rw [h6]; done) | (rw [h6]; exact (rfl))) dX9_areAverage_18 ?_
        refine vv_aload_n X 0 rfl rfl dX9_areAverage_19 ?_
        refine vv_getr (Nf := 20) (ref := (TX9 8).1) X (by decide) sh_105 rfl 8 (by decide) u_X9_areAverage_9 k_X9_areAverage_28 rfl rfl dX9_areAverage_20 ?_
        refine vv_iload_n X 2 rfl rfl dX9_areAverage_23 ?_
        refine vv_iald (z := (M 112 k)) X (by decide) sh_112 (by decide) (by omega) (by first | (rw [h6]; done) | (rw [h6]; exact (rfl))) dX9_areAverage_24 ?_
        refine vv_aload_n X 0 rfl rfl dX9_areAverage_25 ?_
        refine vv_getr (Nf := 20) (ref := (TX9 0).1) X (by decide) sh_105 rfl 0 (by decide) u_X9_areAverage_9 k_X9_areAverage_7 rfl rfl dX9_areAverage_26 ?_
        refine vv_iconst (n := 0) X dX9_areAverage_29 ?_
        refine vv_iald (z := (M 106 0)) X (by decide) sh_106 (by decide) (by omega) (rfl) dX9_areAverage_30 ?_
        refine vv_isub X dX9_areAverage_31 ?_
        refine vv_imul X dX9_areAverage_32 ?_
        refine vv_iadd X dX9_areAverage_33 ?_
        refine vv_istore_n (lv' := [(1, .int (zI (a1 + ((M 111 k) * ((M 112 k) - (M 106 0)))))), (0, .ref (ad 105)), (2, .int (zI a2))]) X rfl (by decide) rfl dX9_areAverage_34 ?_
        refine vv_iinc (lv' := [(2, .int (zI (a2 + 1))), (1, .int (zI (a1 + ((M 111 k) * ((M 112 k) - (M 106 0)))))), (0, .ref (ad 105))]) X 2 rfl (by decide) rfl dX9_areAverage_35 ?_
        refine vv_goto (tgt := 4) X (by decide) dX9_areAverage_38 ?_
        refine vv_sub (lv' := [(0, .ref (ad 105)), (1, .int (zI (a1 + ((M 111 k) * ((M 112 k) - (M 106 0)))))), (2, .int (zI (a2 + 1)))]) [2, 1, 0] rfl ?_
        exact ih_4 (k + 1) (a1 + ((M 111 k) * ((M 112 k) - (M 106 0)))) (a2 + 1) (by omega) (by omega) (by rw [h1]; rfl) (by omega)
  refine vv_sub (lv' := [(0, .ref (ad 105)), (1, .int (zI 0)), (2, .int (zI 0))]) [2, 1, 0] rfl ?_
  exact loop_4 _ 0 0 0 rfl (by omega) rfl (Nat.lt_succ_self _)
theorem u_X9_whyNoSplit_9 : ∀ w ∈ u_ws RX9 TX9 20, w ∈ wsX9_whyNoSplit := by decide +kernel
theorem k_X9_whyNoSplit_167 : Cond.fieldLink yX9_whyNoSplit.cls 167 (TX9 16).1 (TX9 16).2.1 (TX9 16).2.2.1 ∈ wsX9_whyNoSplit := by decide +kernel
set_option maxRecDepth 100000 in
set_option maxHeartbeats 4000000 in
theorem c_X9_whyNoSplit (l : Launch) (D : va_G) {ad : Nat → Nat} (cA : Nat → ClassId) (had : adok ad) (M : Mem) (f : Nat → Int) (nc : Nat) (hP : PD M f nc) (hc : 1 ≤ nc ∧ nc ≤ 6) (hp : 1 ≤ M 106 0 ∧ M 106 0 ≤ 99) : CtI l yX9_whyNoSplit wsX9_whyNoSplit 2 47 D ad cA [.ref (ad 105)] M (fun z M1 => WNS M M1 f nc z) := by
  refine CtI.of (cc := cX9_whyNoSplit) (maxL := 1) (ret := (some .int)) had (by decide) rfl (Nat.le_of_ble_eq_true rfl) ?_
  intro p e s m args below meth c X hm
  show VV p l e { frames := 2, cells := 0, slots := 0, locals := 47 } s m args below meth c 1 D ad cA (Afr ad s.heap.size) 0 0 (QI below args s D ad cA (fun z M1 => WNS M M1 f nc z)) M 0 [(0, .ref (ad 105))] []
  have hP1 := hP.1
  have hP2 := hP.2.1
  have hP3 := hP.2.2.1
  refine vv_aload_n X 0 rfl rfl dX9_whyNoSplit_0 ?_
  refine vv_geti (Nf := 20) (ref := (TX9 16).1) (z := (M 105 16)) X (by decide) sh_105 rfl 16 (by decide) u_X9_whyNoSplit_9 k_X9_whyNoSplit_167 rfl rfl (rfl) dX9_whyNoSplit_1 ?_
  refine vv_if_le (tgt := 12) X (by omega) dX9_whyNoSplit_4 (by decide) (fun c_4 => ?_) (fun c_4 => ?_)
  · skip
    have hnb : ¬ tbad f nc := hP3.mp (by omega)
    have hm1 := PD_pos hP (by omega) hnb
    have hS := hP.2.2.2
    rw [gtl_t hnb] at hS
    refine vv_aload_n X 0 rfl rfl dX9_whyNoSplit_12 ?_
    refine vv_callVI (As := []) (st := []) (Nf := 20) X 0 (c_X9_areWell l D cA had M (tld f nc) (tld_nn hnb) (fun j => by rw [← gtl_t hnb]; have := gtl_b (f := f) (c := nc) j; omega) (hS) (by omega)) gX9_whyNoSplit_X9_areWell rfl (by decide +kernel) ⟨by decide, by decide⟩ (Nat.le_of_ble_eq_true rfl) ⟨by decide, by decide⟩ rfl (by decide) sh_105 rfl rfl dX9_whyNoSplit_13 (fun z13 Mc13 q_13 => ?_)
    obtain ⟨w1, w2, w3⟩ := q_13
    have w105 : Mc13 105 = M 105 := w2 105 (by decide)
    have w106 : Mc13 106 = M 106 := w2 106 (by decide)
    refine vv_if_ne (tgt := 24) X (by rcases w1 with ⟨q1, q2⟩ | ⟨q1, q2⟩ <;> omega) dX9_whyNoSplit_16 (by decide) (fun c_16 => ?_) (fun c_16 => ?_)
    · skip
      have hok : okF (red (tld f nc)) := by
        rcases w1 with ⟨q1, q2⟩ | ⟨q1, q2⟩
        · exact q1
        · omega
      refine vv_aload_n X 0 rfl rfl dX9_whyNoSplit_24 ?_
      refine vv_callVI (As := []) (st := []) (Nf := 20) X 0 (c_X9_areAverage l D cA had Mc13 (red (tld f nc)) (red_nn (tld_nn hnb)) (fun j hj => hok.1 j hj) (w3) (by rw [w105]; omega) (by rw [w106]; exact hp)) gX9_whyNoSplit_X9_areAverage rfl (by decide +kernel) ⟨by decide, by decide⟩ (Nat.le_of_ble_eq_true rfl) ⟨by decide, by decide⟩ rfl (by decide) sh_105 rfl rfl dX9_whyNoSplit_25 (fun z25 Mc25 q_25 => ?_)
      obtain ⟨e_z25, g_z25⟩ := q_25
      have g_z25 := g_z25.symm
      subst g_z25
      rw [w106] at e_z25
      refine vv_if_eq (tgt := 35) X (by rw [e_z25]; split <;> omega) dX9_whyNoSplit_28 (by decide) (fun c_28 => ?_) (fun c_28 => ?_)
      · skip
        refine vv_bipush (n := (-5)) X (by decide) dX9_whyNoSplit_35 ?_
        exact vv_iret X hm (⟨w2, Or.inr (Or.inr ⟨hnb, hok, w3, Or.inr ⟨fun q => by rw [if_pos q] at e_z25; omega, rfl⟩⟩)⟩) dX9_whyNoSplit_37
      · skip
        refine vv_iconst (n := 0) X dX9_whyNoSplit_31 ?_
        refine vv_goto (tgt := 37) X (by decide) dX9_whyNoSplit_32 ?_
        exact vv_iret X hm (⟨w2, Or.inr (Or.inr ⟨hnb, hok, w3, Or.inl ⟨Classical.byContradiction fun q => by rw [if_neg q] at e_z25; omega, rfl⟩⟩)⟩) dX9_whyNoSplit_37
    · skip
      have hno : ¬ okF (red (tld f nc)) := by
        rcases w1 with ⟨q1, q2⟩ | ⟨q1, q2⟩
        · omega
        · exact q1
      refine vv_bipush (n := (-4)) X (by decide) dX9_whyNoSplit_19 ?_
      refine vv_goto (tgt := 37) X (by decide) dX9_whyNoSplit_21 ?_
      exact vv_iret X hm (⟨w2, Or.inr (Or.inl ⟨hnb, hno, rfl⟩)⟩) dX9_whyNoSplit_37
  · skip
    have hbd : tbad f nc := Classical.byContradiction fun q => by have := hP3.mpr q; omega
    refine vv_bipush (n := (-2)) X (by decide) dX9_whyNoSplit_7 ?_
    refine vv_goto (tgt := 37) X (by decide) dX9_whyNoSplit_9 ?_
    exact vv_iret X hm (⟨eqx_rf _ _, Or.inl ⟨hbd, rfl⟩⟩) dX9_whyNoSplit_37
theorem u_X9_whyNotDone_9 : ∀ w ∈ u_ws RX9 TX9 20, w ∈ wsX9_whyNotDone := by decide +kernel
theorem k_X9_whyNotDone_167 : Cond.fieldLink yX9_whyNotDone.cls 167 (TX9 16).1 (TX9 16).2.1 (TX9 16).2.2.1 ∈ wsX9_whyNotDone := by decide +kernel
theorem k_X9_whyNotDone_173 : Cond.fieldLink yX9_whyNotDone.cls 173 (TX9 17).1 (TX9 17).2.1 (TX9 17).2.2.1 ∈ wsX9_whyNotDone := by decide +kernel
theorem k_X9_whyNotDone_176 : Cond.fieldLink yX9_whyNotDone.cls 176 (TX9 18).1 (TX9 18).2.1 (TX9 18).2.2.1 ∈ wsX9_whyNotDone := by decide +kernel
theorem k_X9_whyNotDone_179 : Cond.fieldLink yX9_whyNotDone.cls 179 (TX9 19).1 (TX9 19).2.1 (TX9 19).2.2.1 ∈ wsX9_whyNotDone := by decide +kernel
theorem k_X9_whyNotDone_182 : Cond.fieldLink yX9_whyNotDone.cls 182 (TX9 15).1 (TX9 15).2.1 (TX9 15).2.2.1 ∈ wsX9_whyNotDone := by decide +kernel
set_option maxRecDepth 100000 in
set_option maxHeartbeats 4000000 in
theorem c_X9_whyNotDone (l : Launch) (D : va_G) {ad : Nat → Nat} (cA : Nat → ClassId) (had : adok ad) (M : Mem) (nn i : Nat) (r : TR) (hr : TRW nn i r) (ho : r.1 = true) (hF : FD M r) (hw : WF (aR M)) : CtI l yX9_whyNotDone wsX9_whyNotDone 3 67 D ad cA [.ref (ad 105)] M (fun z M1 => WND M M1 r z) := by
  refine CtI.of (cc := cX9_whyNotDone) (maxL := 1) (ret := (some .int)) had (by decide) rfl (Nat.le_of_ble_eq_true rfl) ?_
  intro p e s m args below meth c X hm
  show VV p l e { frames := 3, cells := 0, slots := 0, locals := 67 } s m args below meth c 1 D ad cA (Afr ad s.heap.size) 0 0 (QI below args s D ad cA (fun z M1 => WND M M1 r z)) M 0 [(0, .ref (ad 105))] []
  obtain ⟨w1, w2, w3⟩ := hr.2 ho
  obtain ⟨h15, hR4, hR1, hPD⟩ := hF
  have r0 := w1 0
  have r1 := w1 1
  have r2 := w1 2
  have r3 := w1 3
  have hp9 : 1 ≤ M 106 0 ∧ M 106 0 ≤ 99 := hw.1
  have hW : rWR M := hw.2.1
  have hn5 : 0 ≤ M 106 1 ∧ M 106 1 ≤ 5 := by
    have q1 := hW.2.1
    have q2 := hW.1
    omega
  refine vv_aload_n X 0 rfl rfl dX9_whyNotDone_0 ?_
  refine vv_geti (Nf := 20) (ref := (TX9 15).1) (z := (M 105 15)) X (by decide) sh_105 rfl 15 (by decide) u_X9_whyNotDone_9 k_X9_whyNotDone_182 rfl rfl (rfl) dX9_whyNotDone_1 ?_
  by_cases c_4_0 : (M 105 15) = 45
  · skip
    refine vv_look (tgt := 69) (off := 65) X (by omega) dX9_whyNotDone_4 (by decide) (by rw [c_4_0]; decide) (by decide) ?_
    have hl : r.2.2.1 = 45 := by omega
    have h16 := hR1 (Or.inl hl)
    refine vv_aload_n X 0 rfl rfl dX9_whyNotDone_69 ?_
    refine vv_aload_n X 0 rfl rfl dX9_whyNotDone_70 ?_
    refine vv_geti (Nf := 20) (ref := (TX9 16).1) (z := (M 105 16)) X (by decide) sh_105 rfl 16 (by decide) u_X9_whyNotDone_9 k_X9_whyNotDone_167 rfl rfl (rfl) dX9_whyNotDone_71 ?_
    refine vv_callVI (As := [.int (zI (M 105 16))]) (st := []) (Nf := 20) X 1 (c_X9_isReceiver l D cA had M (M 105 16) (by omega) (by omega)) gX9_whyNotDone_X9_isReceiver rfl (by decide +kernel) ⟨by decide, by decide⟩ (Nat.le_of_ble_eq_true rfl) ⟨by decide, by decide⟩ rfl (by decide) sh_105 rfl rfl dX9_whyNotDone_74 (fun z74 Mc74 q_74 => ?_)
    obtain ⟨e_z74, g_z74⟩ := q_74
    have g_z74 := g_z74.symm
    subst g_z74
    rw [h16] at e_z74
    refine vv_if_eq (tgt := 84) X (by rw [e_z74]; split <;> omega) dX9_whyNotDone_77 (by decide) (fun c_77 => ?_) (fun c_77 => ?_)
    · skip
      refine vv_iconst (n := (-1)) X dX9_whyNotDone_84 ?_
      exact vv_iret X hm (by
        have q : ¬ (0 ≤ r.2.2.2.1 0 ∧ r.2.2.2.1 0 < M 106 1) := fun q => by rw [if_pos q] at e_z74; omega
        exact ⟨eqx_rf _ _, Or.inl ⟨by decide, by decide, -1, by decide, opO_45 hl ⟨fun _ => ⟨rfl, eqA_rf _⟩, fun w => absurd w q⟩⟩⟩) dX9_whyNotDone_85
    · skip
      refine vv_iconst (n := 0) X dX9_whyNotDone_80 ?_
      refine vv_goto (tgt := 85) X (by decide) dX9_whyNotDone_81 ?_
      exact vv_iret X hm (by
        have q : 0 ≤ r.2.2.2.1 0 ∧ r.2.2.2.1 0 < M 106 1 := Classical.byContradiction fun q => by rw [if_neg q] at e_z74; omega
        exact ⟨eqx_rf _ _, Or.inr ⟨rfl, fun w => by omega, fun _ => q, fun w => by omega, fun w => by omega⟩⟩) dX9_whyNotDone_85
  by_cases c_4_1 : (M 105 15) = 112
  · skip
    refine vv_look (tgt := 86) (off := 82) X (by omega) dX9_whyNotDone_4 (by decide) (by rw [c_4_1]; decide) (by decide) ?_
    have hl : r.2.2.1 = 112 := by omega
    have h16 := hR1 (Or.inr hl)
    refine vv_aload_n X 0 rfl rfl dX9_whyNotDone_86 ?_
    refine vv_geti (Nf := 20) (ref := (TX9 16).1) (z := (M 105 16)) X (by decide) sh_105 rfl 16 (by decide) u_X9_whyNotDone_9 k_X9_whyNotDone_167 rfl rfl (rfl) dX9_whyNotDone_87 ?_
    refine vv_iconst (n := 1) X dX9_whyNotDone_90 ?_
    refine vv_bipush (n := 99) X (by decide) dX9_whyNotDone_91 ?_
    refine vv_callSI (As := [.int (zI (M 105 16)), .int (zI 1), .int (zI 99)]) (st := []) X 3 (c_X9_within l D cA had M (M 105 16) 1 99 (by omega) (by omega) (by omega)) gX9_whyNotDone_X9_within rfl (by decide +kernel) ⟨by decide, by decide⟩ (Nat.le_of_ble_eq_true rfl) ⟨by decide, by decide⟩ rfl rfl dX9_whyNotDone_93 (fun z93 Mc93 q_93 => ?_)
    obtain ⟨e_z93, g_z93⟩ := q_93
    have g_z93 := g_z93.symm
    subst g_z93
    rw [h16] at e_z93
    refine vv_if_eq (tgt := 103) X (by rw [e_z93]; split <;> omega) dX9_whyNotDone_96 (by decide) (fun c_96 => ?_) (fun c_96 => ?_)
    · skip
      refine vv_bipush (n := (-2)) X (by decide) dX9_whyNotDone_103 ?_
      exact vv_iret X hm (by
        have q : ¬ (1 ≤ r.2.2.2.1 0 ∧ r.2.2.2.1 0 ≤ 99) := fun q => by rw [if_pos q] at e_z93; omega
        exact ⟨eqx_rf _ _, Or.inl ⟨by decide, by decide, -2, by decide, opO_112 hl ⟨fun _ => ⟨rfl, eqA_rf _⟩, fun w => absurd w q⟩⟩⟩) dX9_whyNotDone_105
    · skip
      refine vv_iconst (n := 0) X dX9_whyNotDone_99 ?_
      refine vv_goto (tgt := 105) X (by decide) dX9_whyNotDone_100 ?_
      exact vv_iret X hm (by
        have q : 1 ≤ r.2.2.2.1 0 ∧ r.2.2.2.1 0 ≤ 99 := Classical.byContradiction fun q => by rw [if_neg q] at e_z93; omega
        exact ⟨eqx_rf _ _, Or.inr ⟨rfl, fun w => by omega, fun w => by omega, fun _ => q, fun w => by omega⟩⟩) dX9_whyNotDone_105
  by_cases c_4_2 : (M 105 15) = 114
  · skip
    refine vv_look (tgt := 48) (off := 44) X (by omega) dX9_whyNotDone_4 (by decide) (by rw [c_4_2]; decide) (by decide) ?_
    have hl : r.2.2.1 = 114 := by omega
    obtain ⟨h16, h17, h18, h19⟩ := hR4 hl
    refine vv_aload_n X 0 rfl rfl dX9_whyNotDone_48 ?_
    refine vv_aload_n X 0 rfl rfl dX9_whyNotDone_49 ?_
    refine vv_geti (Nf := 20) (ref := (TX9 16).1) (z := (M 105 16)) X (by decide) sh_105 rfl 16 (by decide) u_X9_whyNotDone_9 k_X9_whyNotDone_167 rfl rfl (rfl) dX9_whyNotDone_50 ?_
    refine vv_aload_n X 0 rfl rfl dX9_whyNotDone_53 ?_
    refine vv_geti (Nf := 20) (ref := (TX9 17).1) (z := (M 105 17)) X (by decide) sh_105 rfl 17 (by decide) u_X9_whyNotDone_9 k_X9_whyNotDone_173 rfl rfl (rfl) dX9_whyNotDone_54 ?_
    refine vv_aload_n X 0 rfl rfl dX9_whyNotDone_57 ?_
    refine vv_geti (Nf := 20) (ref := (TX9 18).1) (z := (M 105 18)) X (by decide) sh_105 rfl 18 (by decide) u_X9_whyNotDone_9 k_X9_whyNotDone_176 rfl rfl (rfl) dX9_whyNotDone_58 ?_
    refine vv_aload_n X 0 rfl rfl dX9_whyNotDone_61 ?_
    refine vv_geti (Nf := 20) (ref := (TX9 19).1) (z := (M 105 19)) X (by decide) sh_105 rfl 19 (by decide) u_X9_whyNotDone_9 k_X9_whyNotDone_179 rfl rfl (rfl) dX9_whyNotDone_62 ?_
    refine vv_callVI (As := [.int (zI (M 105 16)), .int (zI (M 105 17)), .int (zI (M 105 18)), .int (zI (M 105 19))]) (st := []) (Nf := 20) X 4 (c_X9_whyNotHired l D cA had M (M 105 16) (M 105 17) (M 105 18) (M 105 19) (by omega) (by omega) (by omega) (by omega) (hn5)) gX9_whyNotDone_X9_whyNotHired rfl (by decide +kernel) ⟨by decide, by decide⟩ (Nat.le_of_ble_eq_true rfl) ⟨by decide, by decide⟩ rfl (by decide) sh_105 rfl rfl dX9_whyNotDone_65 (fun z65 Mc65 q_65 => ?_)
    obtain ⟨e_z65, g_z65⟩ := q_65
    have g_z65 := g_z65.symm
    subst g_z65
    rw [h16, h17, h18, h19] at e_z65
    exact vv_iret X hm (by
      refine ⟨eqx_rf _ _, ?_⟩
      by_cases q : ADM (r.2.2.2.1 0) (r.2.2.2.1 1) (r.2.2.2.1 2) (r.2.2.2.1 3)
      · rw [if_pos q] at e_z65
        by_cases q5 : M 106 1 = 5
        · rw [if_pos q5] at e_z65
          exact Or.inl ⟨by omega, by omega, -4, by decide, opO_114 hl ⟨fun w => absurd q w, fun _ => ⟨fun _ => ⟨rfl, eqA_rf _⟩, fun w => absurd (show M 106 1 < 5 from w) (by omega)⟩⟩⟩
        · rw [if_neg q5] at e_z65
          exact Or.inr ⟨e_z65, fun _ => ⟨q, by omega⟩, fun w => by omega, fun w => by omega, fun w => by omega⟩
      · rw [if_neg q] at e_z65
        exact Or.inl ⟨by omega, by omega, -2, by decide, opO_114 hl ⟨fun _ => ⟨rfl, eqA_rf _⟩, fun w => absurd w q⟩⟩) dX9_whyNotDone_68
  by_cases c_4_3 : (M 105 15) = 115
  · skip
    refine vv_look (tgt := 106) (off := 102) X (by omega) dX9_whyNotDone_4 (by decide) (by rw [c_4_3]; decide) (by decide) ?_
    have hl : r.2.2.1 = 115 := by omega
    have hc6 := w3 hl
    have hpd := hPD hl
    refine vv_aload_n X 0 rfl rfl dX9_whyNotDone_106 ?_
    refine vv_callVI (As := []) (st := []) (Nf := 20) X 0 (c_X9_whyNoSplit l D cA had M r.2.2.2.1 r.2.2.2.2 (hpd) (hc6) (hp9)) gX9_whyNotDone_X9_whyNoSplit rfl (by decide +kernel) ⟨by decide, by decide⟩ (Nat.le_of_ble_eq_true rfl) ⟨by decide, by decide⟩ rfl (by decide) sh_105 rfl rfl dX9_whyNotDone_107 (fun z107 Mc107 q_107 => ?_)
    exact vv_iret X hm (WND_of hl hc6.2 hpd q_107) dX9_whyNotDone_110
  refine vv_look (tgt := 111) (off := 107) X (by omega) dX9_whyNotDone_4 (by decide) (by simp only [Op.lookupswitch.offset_cons, Op.lookupswitch.offset]; (repeat' split) <;> omega) (by decide) ?_
  have hl : r.2.2.1 = 98 := by omega
  refine vv_iconst (n := 0) X dX9_whyNotDone_111 ?_
  exact vv_iret X hm (⟨eqx_rf _ _, Or.inr ⟨rfl, fun w => by omega, fun w => by omega, fun w => by omega, fun w => by omega⟩⟩) dX9_whyNotDone_112
theorem u_X9_does_9 : ∀ w ∈ u_ws RX9 TX9 20, w ∈ wsX9_does := by decide +kernel
theorem k_X9_does_167 : Cond.fieldLink yX9_does.cls 167 (TX9 16).1 (TX9 16).2.1 (TX9 16).2.2.1 ∈ wsX9_does := by decide +kernel
theorem k_X9_does_173 : Cond.fieldLink yX9_does.cls 173 (TX9 17).1 (TX9 17).2.1 (TX9 17).2.2.1 ∈ wsX9_does := by decide +kernel
theorem k_X9_does_176 : Cond.fieldLink yX9_does.cls 176 (TX9 18).1 (TX9 18).2.1 (TX9 18).2.2.1 ∈ wsX9_does := by decide +kernel
theorem k_X9_does_179 : Cond.fieldLink yX9_does.cls 179 (TX9 19).1 (TX9 19).2.1 (TX9 19).2.2.1 ∈ wsX9_does := by decide +kernel
theorem k_X9_does_182 : Cond.fieldLink yX9_does.cls 182 (TX9 15).1 (TX9 15).2.1 (TX9 15).2.2.1 ∈ wsX9_does := by decide +kernel
set_option maxRecDepth 100000 in
set_option maxHeartbeats 4000000 in
theorem c_X9_does (l : Launch) (D : va_G) {ad : Nat → Nat} (cA : Nat → ClassId) (had : adok ad) (M : Mem) (nn i : Nat) (r : TR) (hr : TRW nn i r) (ho : r.1 = true) (hE : FE M r) (hw : WF (aR M)) (hY : RDY M r) : CtV l yX9_does wsX9_does 6 139 D ad cA [.ref (ad 105)] M (fun M1 => DON M M1 r) := by
  refine CtV.of (cc := cX9_does) (maxL := 1) (ret := none) had (by decide) rfl (Nat.le_of_ble_eq_true rfl) ?_
  intro p e s m args below meth c X hm
  show VV p l e { frames := 6, cells := 0, slots := 0, locals := 139 } s m args below meth c 1 D ad cA (Afr ad s.heap.size) 0 0 (QV below args s D ad cA (fun M1 => DON M M1 r)) M 0 [(0, .ref (ad 105))] []
  obtain ⟨w1, w2, w3⟩ := hr.2 ho
  obtain ⟨h15, hR4, hR1⟩ := hE
  obtain ⟨y1, y2, y3, y4⟩ := hY
  have r0 := w1 0
  have r1 := w1 1
  have r2 := w1 2
  have r3 := w1 3
  have hp9 : 1 ≤ M 106 0 ∧ M 106 0 ≤ 99 := hw.1
  have hW : rWR M := hw.2.1
  have hn5 : 0 ≤ M 106 1 ∧ M 106 1 ≤ 5 := by
    have q1 := hW.2.1
    have q2 := hW.1
    omega
  refine vv_aload_n X 0 rfl rfl dX9_does_0 ?_
  refine vv_geti (Nf := 20) (ref := (TX9 15).1) (z := (M 105 15)) X (by decide) sh_105 rfl 15 (by decide) u_X9_does_9 k_X9_does_182 rfl rfl (rfl) dX9_does_1 ?_
  by_cases c_4_0 : (M 105 15) = 45
  · skip
    refine vv_look (tgt := 72) (off := 68) X (by omega) dX9_does_4 (by decide) (by rw [c_4_0]; decide) (by decide) ?_
    have hl : r.2.2.1 = 45 := by omega
    have h16 := hR1 (Or.inl hl)
    have g := y2 hl
    refine vv_aload_n X 0 rfl rfl dX9_does_72 ?_
    refine vv_aload_n X 0 rfl rfl dX9_does_73 ?_
    refine vv_geti (Nf := 20) (ref := (TX9 16).1) (z := (M 105 16)) X (by decide) sh_105 rfl 16 (by decide) u_X9_does_9 k_X9_does_167 rfl rfl (rfl) dX9_does_74 ?_
    refine vv_callVI (As := [.int (zI (M 105 16))]) (st := []) (Nf := 20) X 1 (c_X9_dismisses l D cA had M (M 105 16) (by omega) (by omega)) gX9_does_X9_dismisses rfl (by decide +kernel) ⟨by decide, by decide⟩ (Nat.le_of_ble_eq_true rfl) ⟨by decide, by decide⟩ rfl (by decide) sh_105 rfl rfl dX9_does_77 (fun z77 Mc77 q_77 => ?_)
    refine vv_pop X rfl dX9_does_80 ?_
    refine vv_goto (tgt := 107) X (by decide) dX9_does_81 ?_
    exact vv_vret X hm (by
      obtain ⟨e1, e2, e3⟩ := q_77
      rw [h16] at e3
      exact ⟨⟨M 106 1 - 1, by omega, opO_45 hl ⟨fun w => absurd g w, fun _ => ⟨rfl, e3⟩⟩⟩, eqx_mono e2 (by decide), by rw [e2 105 (by decide)], by rw [e2 105 (by decide)], by rw [e2 105 (by decide)]⟩) dX9_does_107
  by_cases c_4_1 : (M 105 15) = 112
  · skip
    refine vv_look (tgt := 84) (off := 80) X (by omega) dX9_does_4 (by decide) (by rw [c_4_1]; decide) (by decide) ?_
    have hl : r.2.2.1 = 112 := by omega
    have h16 := hR1 (Or.inr hl)
    have g := y3 hl
    refine vv_aload_n X 0 rfl rfl dX9_does_84 ?_
    refine vv_aload_n X 0 rfl rfl dX9_does_85 ?_
    refine vv_geti (Nf := 20) (ref := (TX9 16).1) (z := (M 105 16)) X (by decide) sh_105 rfl 16 (by decide) u_X9_does_9 k_X9_does_167 rfl rfl (rfl) dX9_does_86 ?_
    refine vv_callVV (As := [.int (zI (M 105 16))]) (st := []) (Nf := 20) X 1 (c_X9_priors l D cA had M (M 105 16) (by omega) (by omega)) gX9_does_X9_priors rfl (by decide +kernel) ⟨by decide, by decide⟩ (Nat.le_of_ble_eq_true rfl) ⟨by decide, by decide⟩ rfl (by decide) sh_105 rfl rfl dX9_does_89 (fun Mc89 q_89 => ?_)
    refine vv_goto (tgt := 107) X (by decide) dX9_does_92 ?_
    exact vv_vret X hm (by
      obtain ⟨e1, e2, e3⟩ := q_89
      rw [h16] at e1
      exact ⟨⟨M 106 0, by omega, opO_112 hl ⟨fun w => absurd g w, fun _ => ⟨rfl, e1⟩⟩⟩, e2, e3 2 (by decide), e3 6 (by decide), e3 14 (by decide)⟩) dX9_does_107
  by_cases c_4_2 : (M 105 15) = 114
  · skip
    refine vv_look (tgt := 48) (off := 44) X (by omega) dX9_does_4 (by decide) (by rw [c_4_2]; decide) (by decide) ?_
    have hl : r.2.2.1 = 114 := by omega
    obtain ⟨h16, h17, h18, h19⟩ := hR4 hl
    have g := y1 hl
    refine vv_aload_n X 0 rfl rfl dX9_does_48 ?_
    refine vv_aload_n X 0 rfl rfl dX9_does_49 ?_
    refine vv_geti (Nf := 20) (ref := (TX9 16).1) (z := (M 105 16)) X (by decide) sh_105 rfl 16 (by decide) u_X9_does_9 k_X9_does_167 rfl rfl (rfl) dX9_does_50 ?_
    refine vv_aload_n X 0 rfl rfl dX9_does_53 ?_
    refine vv_geti (Nf := 20) (ref := (TX9 17).1) (z := (M 105 17)) X (by decide) sh_105 rfl 17 (by decide) u_X9_does_9 k_X9_does_173 rfl rfl (rfl) dX9_does_54 ?_
    refine vv_aload_n X 0 rfl rfl dX9_does_57 ?_
    refine vv_geti (Nf := 20) (ref := (TX9 18).1) (z := (M 105 18)) X (by decide) sh_105 rfl 18 (by decide) u_X9_does_9 k_X9_does_176 rfl rfl (rfl) dX9_does_58 ?_
    refine vv_aload_n X 0 rfl rfl dX9_does_61 ?_
    refine vv_geti (Nf := 20) (ref := (TX9 19).1) (z := (M 105 19)) X (by decide) sh_105 rfl 19 (by decide) u_X9_does_9 k_X9_does_179 rfl rfl (rfl) dX9_does_62 ?_
    refine vv_callVI (As := [.int (zI (M 105 16)), .int (zI (M 105 17)), .int (zI (M 105 18)), .int (zI (M 105 19))]) (st := []) (Nf := 20) X 4 (c_X9_hires l D cA had M (M 105 16) (M 105 17) (M 105 18) (M 105 19) (by omega)) gX9_does_X9_hires rfl (by decide +kernel) ⟨by decide, by decide⟩ (Nat.le_of_ble_eq_true rfl) ⟨by decide, by decide⟩ rfl (by decide) sh_105 rfl rfl dX9_does_65 (fun z65 Mc65 q_65 => ?_)
    refine vv_pop X rfl dX9_does_68 ?_
    refine vv_goto (tgt := 107) X (by decide) dX9_does_69 ?_
    exact vv_vret X hm (by
      obtain ⟨e1, e2, e3⟩ := q_65
      rw [h16, h17, h18, h19] at e3
      exact ⟨⟨M 106 1, by omega, opO_114 hl ⟨fun w => absurd g.1 w, fun _ => ⟨fun w => absurd (show M 106 1 = 5 from w) (by omega), fun _ => ⟨rfl, e3⟩⟩⟩⟩, eqx_mono e2 (by decide), by rw [e2 105 (by decide)], by rw [e2 105 (by decide)], by rw [e2 105 (by decide)]⟩) dX9_does_107
  by_cases c_4_3 : (M 105 15) = 115
  · skip
    refine vv_look (tgt := 95) (off := 91) X (by omega) dX9_does_4 (by decide) (by rw [c_4_3]; decide) (by decide) ?_
    have hl : r.2.2.1 = 115 := by omega
    obtain ⟨⟨g1, g2, g3⟩, g4, g5⟩ := y4 hl
    have g0 : 0 ≤ M 105 9 := by rw [g4.1]; exact (cnt_b _ 101).1
    refine vv_aload_n X 0 rfl rfl dX9_does_95 ?_
    refine vv_callVV (As := []) (st := []) (Nf := 20) X 0 (c_X9_gives l D cA had M (by omega)) gX9_does_X9_gives rfl (by decide +kernel) ⟨by decide, by decide⟩ (Nat.le_of_ble_eq_true rfl) ⟨by decide, by decide⟩ rfl (by decide) sh_105 rfl rfl dX9_does_96 (fun Mc96 q_96 => ?_)
    refine vv_goto (tgt := 107) X (by decide) dX9_does_99 ?_
    exact vv_vret X hm (by
      obtain ⟨gE, gj⟩ := q_96
      have hG := gives_A gj hn5.2 g5
      exact ⟨⟨M 105 9, g0, opO_115 hl ⟨fun w => absurd w g1, fun _ => ⟨fun w => absurd g3 w.2, fun _ => ⟨fun w => absurd g2 w, fun _ => ⟨M 105 9, M 111, M 112, g4, rfl, hG⟩⟩⟩⟩⟩, eqx_mono gE (by decide), by rw [gE 105 (by decide)], by rw [gE 105 (by decide)], by rw [gE 105 (by decide)]⟩) dX9_does_107
  refine vv_look (tgt := 102) (off := 98) X (by omega) dX9_does_4 (by decide) (by simp only [Op.lookupswitch.offset_cons, Op.lookupswitch.offset]; (repeat' split) <;> omega) (by decide) ?_
  have hl : r.2.2.1 = 98 := by omega
  refine vv_aload_n X 0 rfl rfl dX9_does_102 ?_
  refine vv_callVI (As := []) (st := []) (Nf := 20) X 0 (c_X9_adopts l D cA had M (hw)) gX9_does_X9_adopts rfl (by decide +kernel) ⟨by decide, by decide⟩ (Nat.le_of_ble_eq_true rfl) ⟨by decide, by decide⟩ rfl (by decide) sh_105 rfl rfl dX9_does_103 (fun z103 Mc103 q_103 => ?_)
  refine vv_pop X rfl dX9_does_106 ?_
  exact vv_vret X hm (by
    obtain ⟨e1, e2, e3, e4, e5⟩ := q_103
    exact ⟨⟨z103, e5, opO_98 hl e1⟩, e2, e3 2 (by decide), e3 6 (by decide), e4 14 (by decide)⟩) dX9_does_107
theorem u_X9_carryOut_9 : ∀ w ∈ u_ws RX9 TX9 20, w ∈ wsX9_carryOut := by decide +kernel
theorem k_X9_carryOut_150 : Cond.fieldLink yX9_carryOut.cls 150 (TX9 6).1 (TX9 6).2.1 (TX9 6).2.2.1 ∈ wsX9_carryOut := by decide +kernel
theorem k_X9_carryOut_155 : Cond.fieldLink yX9_carryOut.cls 155 (TX9 14).1 (TX9 14).2.1 (TX9 14).2.2.1 ∈ wsX9_carryOut := by decide +kernel
set_option maxRecDepth 100000 in
set_option maxHeartbeats 4000000 in
theorem c_X9_carryOut (l : Launch) (D : va_G) {ad : Nat → Nat} (cA : Nat → ClassId) (had : adok ad) (M : Mem) (C : Nat → Int) (nn : Nat) (hS0 : RS0 M C nn) (hw : RW M) : CtI l yX9_carryOut wsX9_carryOut 7 159 D ad cA [.ref (ad 105)] M (fun z M1 => (FT C nn 80 0 ≠ -6 → z = -3 ∧ KQ M M1) ∧ (FT C nn 80 0 = -6 → rChg (fun a z a1 => OT C nn 80 0 a 0 z a1) 0 M z M1)) := by
  refine CtI.of (cc := cX9_carryOut) (maxL := 3) (ret := (some .int)) had (by decide) rfl (Nat.le_of_ble_eq_true rfl) ?_
  intro p e s m args below meth c X hm
  show VV p l e { frames := 7, cells := 0, slots := 0, locals := 159 } s m args below meth c 3 D ad cA (Afr ad s.heap.size) 0 0 (QI below args s D ad cA (fun z M1 => (FT C nn 80 0 ≠ -6 → z = -3 ∧ KQ M M1) ∧ (FT C nn 80 0 = -6 → rChg (fun a z a1 => OT C nn 80 0 a 0 z a1) 0 M z M1))) M 0 [(0, .ref (ad 105))] []
  have hw0 := hw
  obtain ⟨hwA, hHi, hwh⟩ := hw
  have hW : rWR M := hwA.2.1
  have hn5 : 0 ≤ M 106 1 ∧ M 106 1 ≤ 5 := by
    have q1 := hW.2.1
    have q2 := hW.1
    omega
  have hsm : 1 ≤ M 106 2 ∧ M 106 2 ≤ 6 := WFs_pos hwA.2.2
  have hwb : ∀ k : Nat, (k : Int) < M 106 2 → (1 ≤ M 106 (23 + k) ∧ M 106 (23 + k) ≤ 999) ∧ (0 ≤ M 106 (29 + k) ∧ M 106 (29 + k) ≤ 100) := fun k hk => WFs_b hwA.2.2 hk
  have hp9 : 1 ≤ M 106 0 ∧ M 106 0 ≤ 99 := hwA.1
  obtain ⟨hCn, hn8⟩ := RS0_n hS0
  have hCb : ∀ j, 0 ≤ C j ∧ C j ≤ 126 := fun j => by rw [← hS0.1]; exact rC_b hS0.2.1 j
  refine vv_aload_n X 0 rfl rfl dX9_carryOut_0 ?_
  refine vv_callVI (As := []) (st := []) (Nf := 20) X 0 (c_X9_findFault l D cA had M C nn (hS0)) gX9_carryOut_X9_findFault rfl (by decide +kernel) ⟨by decide, by decide⟩ (Nat.le_of_ble_eq_true rfl) ⟨by decide, by decide⟩ rfl (by decide) sh_105 rfl rfl dX9_carryOut_1 (fun z1 Mc1 q_1 => ?_)
  obtain ⟨v1, v2⟩ := q_1
  have hz1 : -6 ≤ z1 ∧ z1 ≤ 1000 := by
    have q := FT_b (C := C) (n := nn) hCn (m := 80) (i := 0) (Nat.zero_le _)
    rw [v1]
    omega
  refine vv_bipush (n := (-6)) X (by decide) dX9_carryOut_4 ?_
  refine vv_icmp_eq (tgt := 12) X (by have q := FT_b (C := C) (n := nn) hCn (m := 80) (i := 0) (Nat.zero_le _); omega) (by have q := FT_b (C := C) (n := nn) hCn (m := 80) (i := 0) (Nat.zero_le _); omega) dX9_carryOut_6 (by decide) (fun c_6 => ?_) (fun c_6 => ?_)
  · skip
    refine vv_aload_n X 0 rfl rfl dX9_carryOut_12 ?_
    refine vv_callVV (As := []) (st := []) (Nf := 20) X 0 (c_X9_record l D cA had Mc1 (RW_pre v2.1 v2.2.1 hw0)) gX9_carryOut_X9_record rfl (by decide +kernel) ⟨by decide, by decide⟩ (Nat.le_of_ble_eq_true rfl) ⟨by decide, by decide⟩ rfl (by decide) sh_105 rfl rfl dX9_carryOut_13 (fun Mr qr => ?_)
    obtain ⟨⟨rP, rH⟩, rE, rk⟩ := qr
    have hF : FT C nn 80 0 = -6 := by omega
    have rA : aR Mr = aR M := (aR_eq (rE 106 (by decide))).trans (aR_eq (v2.1 106 (by decide)))
    have hSr : RS0 Mr C nn := by
      have q1 : Mr 110 = M 110 := (rE 110 (by decide)).trans (v2.1 110 (by decide))
      have q2 : Mr 105 6 = M 105 6 := (rk 6 (by decide)).trans v2.2.2
      refine ⟨?_, ?_, by rw [q2]; exact hS0.2.2⟩
      · unfold rC
        rw [q1, q2]
        exact hS0.1
      · unfold RP
        rw [q1, q2]
        exact hS0.2.1
    have hwr : WF (aR Mr) := by rw [rA]; exact hwA
    refine vv_iconst (n := 0) X dX9_carryOut_16 ?_
    refine vv_istore_n (lv' := [(1, .int (zI 0)), (0, .ref (ad 105))]) X rfl (by decide) rfl dX9_carryOut_17 ?_
    refine vv_aload_n X 1 rfl rfl dX9_carryOut_18 ?_
    refine vv_iconst (n := 0) X dX9_carryOut_19 ?_
    refine vv_puti (Nf := 20) (ref := (TX9 14).1) X (by decide) sh_105 rfl 14 (by decide) u_X9_carryOut_9 k_X9_carryOut_155 rfl tyX9_ok nmX9 rfl (by decide +kernel) rfl rfl dX9_carryOut_20 ?_
    refine vv_iconst (n := 1) X dX9_carryOut_23 ?_
    refine vv_istore_n (lv' := [(2, .int (zI 1)), (1, .int (zI 0)), (0, .ref (ad 105))]) X rfl (by decide) rfl dX9_carryOut_24 ?_
    have loop_25 : ∀ (n : Nat) (M_25 : Mem) (k : Nat) (j : Nat) (a1 : Int) (a2 : Int), a1 = (k : Int) → (a2 = 0 ∨ a2 = 1) → eqx Mr M_25 [105, 106, 111, 112] → (M_25 105 2 = Mr 105 2 ∧ M_25 105 6 = Mr 105 6) → M_25 105 14 = (j : Int) → j ≤ nn → (k ≤ j ∧ (2 * k ≤ j ∨ (nn ≤ j ∧ 2 * k ≤ j + 1))) → (WF (aR M_25) ∨ a2 = 0) → (a2 = 1 → RI C nn k j (aR M_25) (aR M)) → (a2 = 0 → OT C nn 80 0 (aR M) 0 (k : Int) (aR M_25)) → (nn - j) + (a2.toNat) < n → VV p l e { frames := 7, cells := 0, slots := 0, locals := 159 } s m args below meth c 3 D ad cA (Afr ad s.heap.size) 0 0 (QI below args s D ad cA (fun z M1 => (FT C nn 80 0 ≠ -6 → z = -3 ∧ KQ M M1) ∧ (FT C nn 80 0 = -6 → rChg (fun a z a1 => OT C nn 80 0 a 0 z a1) 0 M z M1))) M_25 25 [(0, .ref (ad 105)), (1, .int (zI a1)), (2, .int (zI a2))] [] := by
      intro n
      induction n with
      | zero => intro M_25 k j a1 a2 h1 h2 hE he h14 hj hjk hwj hL hD hn; exact absurd hn (Nat.not_lt_zero _)
      | succ n ih_25 =>
        intro M_25 k j a1 a2 h1 h2 hE he h14 hj hjk hwj hL hD hn
        have e110 : M_25 110 = Mr 110 := hE 110 (by decide)
        have hS25 : RS M_25 C nn j := by
          refine ⟨?_, ?_, by rw [he.2]; exact hSr.2.2, h14⟩
          · unfold rC
            rw [e110, he.2]
            exact hSr.1
          · unfold RP
            rw [e110, he.2]
            exact hSr.2.1
        have h66 : M_25 105 6 = (nn : Int) := hS25.2.2.1
        refine vv_iload_n X 2 rfl rfl dX9_carryOut_25 ?_
        refine vv_if_eq (tgt := 79) X (by omega) dX9_carryOut_26 (by decide) (fun c_26 => ?_) (fun c_26 => ?_)
        · skip
          refine vv_aload_n X 0 rfl rfl dX9_carryOut_79 ?_
          refine vv_iconst (n := 0) X dX9_carryOut_80 ?_
          refine vv_puti (Nf := 20) (ref := (TX9 6).1) X (by decide) sh_105 rfl 6 (by decide) u_X9_carryOut_9 k_X9_carryOut_150 rfl tyX9_ok nmX9 rfl (by decide +kernel) rfl rfl dX9_carryOut_81 ?_
          refine vv_iload_n X 1 rfl rfl dX9_carryOut_84 ?_
          exact vv_iret X hm (by
            refine ⟨fun q => absurd hF q, fun _ => ?_⟩
            have hOT : OT C nn 80 0 (aR M) 0 (k : Int) (aR M_25) := hD (by omega)
            refine rChg_pre v2.1 v2.2.1 (rChg_yes rP rH rE (eqx_up _ _ hE (by decide)) ?_ (up2_s _ _ _ _) (by omega) ?_)
            · rw [up2_m _ _ _ (by decide)]
              exact he.1
            · show OT C nn 80 0 (aR Mc1) 0 a1 (aR M_25)
              rw [aR_eq (v2.1 106 (by decide)), h1]
              exact hOT) dX9_carryOut_85
        · skip
          have hg1 : a2 = 1 := by omega
          have hI := hL hg1
          refine vv_aload_n X 0 rfl rfl dX9_carryOut_29 ?_
          refine vv_geti (Nf := 20) (ref := (TX9 14).1) (z := (M_25 105 14)) X (by decide) sh_105 rfl 14 (by decide) u_X9_carryOut_9 k_X9_carryOut_155 rfl rfl (rfl) dX9_carryOut_30 ?_
          refine vv_aload_n X 0 rfl rfl dX9_carryOut_33 ?_
          refine vv_geti (Nf := 20) (ref := (TX9 6).1) (z := (M_25 105 6)) X (by decide) sh_105 rfl 6 (by decide) u_X9_carryOut_9 k_X9_carryOut_150 rfl rfl (rfl) dX9_carryOut_34 ?_
          refine vv_icmp_ge (tgt := 79) X (by omega) (by omega) dX9_carryOut_37 (by decide) (fun c_37 => ?_) (fun c_37 => ?_)
          · skip
            refine vv_aload_n X 0 rfl rfl dX9_carryOut_79 ?_
            refine vv_iconst (n := 0) X dX9_carryOut_80 ?_
            refine vv_puti (Nf := 20) (ref := (TX9 6).1) X (by decide) sh_105 rfl 6 (by decide) u_X9_carryOut_9 k_X9_carryOut_150 rfl tyX9_ok nmX9 rfl (by decide +kernel) rfl rfl dX9_carryOut_81 ?_
            refine vv_iload_n X 1 rfl rfl dX9_carryOut_84 ?_
            exact vv_iret X hm (by
              refine ⟨fun q => absurd hF q, fun _ => ?_⟩
              have hOT : OT C nn 80 0 (aR M) 0 (k : Int) (aR M_25) := RI_end (hL hg1) (by omega)
              refine rChg_pre v2.1 v2.2.1 (rChg_yes rP rH rE (eqx_up _ _ hE (by decide)) ?_ (up2_s _ _ _ _) (by omega) ?_)
              · rw [up2_m _ _ _ (by decide)]
                exact he.1
              · show OT C nn 80 0 (aR Mc1) 0 a1 (aR M_25)
                rw [aR_eq (v2.1 106 (by decide)), h1]
                exact hOT) dX9_carryOut_85
          · skip
            obtain ⟨s1, s2, s3, s4, s5, s6⟩ := RI_step hCn hn8 (by omega) (by omega) hI
            refine vv_aload_n X 0 rfl rfl dX9_carryOut_40 ?_
            refine vv_callVI (As := []) (st := []) (Nf := 20) X 0 (c_X9_readsOrder l D cA had M_25 C nn j ⟨hS25.1, hS25.2.1, hS25.2.2.1, hS25.2.2.2⟩ (by omega)) gX9_carryOut_X9_readsOrder rfl (by decide +kernel) ⟨by decide, by decide⟩ (Nat.le_of_ble_eq_true rfl) ⟨by decide, by decide⟩ rfl (by decide) sh_105 rfl rfl dX9_carryOut_41 (fun z41 Mc41 q_41 => ?_)
            obtain ⟨u1, u2, u3, u4⟩ := q_41
            have u4 := u4 s1
            have hS41 : RS Mc41 C nn (RO C j).2.1 := RS_kq hS25 u2 u3
            have s7 := s2.1
            have e41A : aR Mc41 = aR M_25 := aR_eq (u2.1 106 (by decide))
            have hw25 : WF (aR M_25) := by
              rcases hwj with q | q
              · exact q
              · omega
            refine vv_pop X rfl dX9_carryOut_44 ?_
            refine vv_aload_n X 0 rfl rfl dX9_carryOut_45 ?_
            refine vv_bipush (n := 59) X (by decide) dX9_carryOut_46 ?_
            refine vv_callVI (As := [.int (zI 59)]) (st := []) (Nf := 20) X 1 (c_X9_isNext l D cA had Mc41 59 (by omega) C nn ((RO C j).2.1) ⟨hS41.1, hS41.2.1, hS41.2.2.1, hS41.2.2.2⟩ (by omega)) gX9_carryOut_X9_isNext rfl (by decide +kernel) ⟨by decide, by decide⟩ (Nat.le_of_ble_eq_true rfl) ⟨by decide, by decide⟩ rfl (by decide) sh_105 rfl rfl dX9_carryOut_48 (fun z48 Mc48 q_48 => ?_)
            obtain ⟨e_z48, g_z48⟩ := q_48
            subst g_z48
            obtain ⟨p48, ep48⟩ : ∃ q : Nat, q = if C ((RO C j).2.1) = 59 then ((RO C j).2.1) + 1 else ((RO C j).2.1) := ⟨_, rfl⟩
            rw [← ep48]
            rw [← ep48] at s3 s4 s6
            have s8 : (RO C j).2.1 ≤ p48 := by rw [ep48]; split <;> omega
            refine vv_pop X rfl dX9_carryOut_51 ?_
            refine vv_aload_n X 0 rfl rfl dX9_carryOut_52 ?_
            refine vv_callVI (As := []) (st := []) (Nf := 20) X 0 (c_X9_whyNotDone l D cA had (up2 Mc41 105 14 ((p48 : Nat) : Int)) nn j (RO C j) (s2) (s1) (FD_14 u4) (by rw [show aR (up2 Mc41 105 14 ((p48 : Nat) : Int)) = aR M_25 from e41A]; exact hw25)) gX9_carryOut_X9_whyNotDone rfl (by decide +kernel) ⟨by decide, by decide⟩ (Nat.le_of_ble_eq_true rfl) ⟨by decide, by decide⟩ rfl (by decide) sh_105 rfl rfl dX9_carryOut_53 (fun z53 Mc53 q_53 => ?_)
            obtain ⟨x1, x2⟩ := q_53
            have hz53 : -6 ≤ z53 ∧ z53 ≤ 6 := by
              rcases x2 with ⟨_, q, _⟩ | ⟨q, _⟩
              · exact q
              · omega
            have x105 : Mc53 105 = (up2 Mc41 105 14 ((p48 : Nat) : Int)) 105 := x1 105 (by decide)
            have e53 : aR Mc53 = aR M_25 := (aR_eq (x1 106 (by decide))).trans e41A
            have hE53 : eqx Mr Mc53 [105, 106, 111, 112] := eqx_tr hE (eqx_tr (eqx_mono u2.1 (by decide)) (eqx_tr (eqx_up _ _ (eqx_rf _ _) (by decide)) (eqx_mono x1 (by decide))))
            have he53 : Mc53 105 2 = Mr 105 2 ∧ Mc53 105 6 = Mr 105 6 := ⟨by rw [x105, up2_m _ _ _ (by decide), u2.2.1, he.1], by rw [x105, up2_m _ _ _ (by decide), u2.2.2, he.2]⟩
            have h53 : Mc53 105 14 = (p48 : Int) := by rw [x105, up2_s]
            refine vv_if_ne (tgt := 63) X (by have := hz53; omega) dX9_carryOut_56 (by decide) (fun c_56 => ?_) (fun c_56 => ?_)
            · skip
              have hD53 : OT C nn 80 0 (aR M) 0 (k : Int) (aR Mc53) := by
                rcases x2 with ⟨_, _, y, hy, hO⟩ | ⟨q, _⟩
                · rw [show aR (up2 Mc41 105 14 ((p48 : Nat) : Int)) = aR M_25 from e41A] at hO
                  exact (s6 y _ hO).1 hy
                · omega
              clear x2
              refine vv_iconst (n := 0) X dX9_carryOut_63 ?_
              refine vv_istore_n (lv' := [(2, .int (zI 0)), (0, .ref (ad 105)), (1, .int (zI a1))]) X rfl (by decide) rfl dX9_carryOut_64 ?_
              refine vv_iload_n X 0 rfl rfl dX9_carryOut_65 ?_
              refine vv_if_eq (tgt := 25) X (by omega) dX9_carryOut_66 (by decide) (fun c_66 => ?_) (fun c_66 => ?_)
              · skip
                refine vv_sub (lv' := [(0, .ref (ad 105)), (1, .int (zI a1)), (2, .int (zI 0))]) [1, 2, 0] rfl ?_
                exact ih_25 Mc53 k p48 a1 0 h1 (Or.inl rfl) hE53 he53 h53 (by omega) (by omega) (Or.inr rfl) (fun q => absurd q (by decide)) (fun _ => hD53) (by omega)
              · skip
                omega
            · skip
              have hY : RDY Mc53 (RO C j) := by
                rcases x2 with ⟨q, _⟩ | ⟨_, q⟩
                · omega
                · exact q
              clear x2
              have hw53 : WF (aR Mc53) := by rw [e53]; exact hw25
              refine vv_iconst (n := 1) X dX9_carryOut_59 ?_
              refine vv_goto (tgt := 64) X (by decide) dX9_carryOut_60 ?_
              refine vv_istore_n (lv' := [(2, .int (zI 1)), (0, .ref (ad 105)), (1, .int (zI a1))]) X rfl (by decide) rfl dX9_carryOut_64 ?_
              refine vv_iload_n X 0 rfl rfl dX9_carryOut_65 ?_
              refine vv_if_eq (tgt := 25) X (by omega) dX9_carryOut_66 (by decide) (fun c_66 => ?_) (fun c_66 => ?_)
              · skip
                omega
              · skip
                refine vv_aload_n X 1 rfl rfl dX9_carryOut_69 ?_
                refine vv_callVV (As := []) (st := []) (Nf := 20) X 0 (c_X9_does l D cA had Mc53 nn j (RO C j) (s2) (s1) (FE_of (FD_14 u4) x105) (hw53) (hY)) gX9_carryOut_X9_does rfl (by decide +kernel) ⟨by decide, by decide⟩ (Nat.le_of_ble_eq_true rfl) ⟨by decide, by decide⟩ rfl (by decide) sh_105 rfl rfl dX9_carryOut_70 (fun Mc70 q_70 => ?_)
                obtain ⟨⟨y, hy, hO⟩, d1, d2, d3, d4⟩ := q_70
                rw [e53] at hO
                have hw70 : WF (aR Mc70) := (det_O s2 s1 (eqA_rf _) hw25 hO hO).2.2
                refine vv_iinc (lv' := [(1, .int (zI (a1 + 1))), (2, .int (zI 1)), (0, .ref (ad 105))]) X 2 rfl (by decide) rfl dX9_carryOut_73 ?_
                refine vv_goto (tgt := 25) X (by decide) dX9_carryOut_76 ?_
                refine vv_sub (lv' := [(0, .ref (ad 105)), (1, .int (zI (a1 + 1))), (2, .int (zI 1))]) [2, 0, 1] rfl ?_
                exact ih_25 Mc70 (k + 1) p48 (a1 + 1) 1 (by omega) (Or.inr rfl) (eqx_tr hE53 (eqx_mono d1 (by decide))) ⟨by rw [d2, he53.1], by rw [d3, he53.2]⟩ (by rw [d4, h53]) (by omega) (by omega) (Or.inl hw70) (fun _ => (s6 y _ hO).2 hy) (fun q => absurd q (by decide)) (by omega)
    refine vv_sub (lv' := [(0, .ref (ad 105)), (1, .int (zI 0)), (2, .int (zI 1))]) [2, 1, 0] rfl ?_
    exact loop_25 _ (up2 Mr 105 14 0) 0 0 0 1 rfl (Or.inr rfl) (eqx_up _ _ (eqx_rf _ _) (by decide)) ⟨rfl, rfl⟩ rfl (by omega) (by omega) (Or.inl hwr) (fun _ => by rw [show aR (up2 Mr 105 14 0) = aR M from rA]; exact RI_0 hCn hF) (fun q => absurd q (by decide)) (Nat.lt_succ_self _)
  · skip
    refine vv_bipush (n := (-3)) X (by decide) dX9_carryOut_9 ?_
    exact vv_iret X hm (⟨fun _ => ⟨rfl, v2⟩, fun q => by omega⟩) dX9_carryOut_11
