theorem u_X9_record_9 : ∀ w ∈ u_ws RX9 TX9 20, w ∈ wsX9_record := by decide +kernel
theorem k_X9_record_7 : Cond.fieldLink yX9_record.cls 7 (TX9 0).1 (TX9 0).2.1 (TX9 0).2.2.1 ∈ wsX9_record := by decide +kernel
theorem k_X9_record_13 : Cond.fieldLink yX9_record.cls 13 (TX9 1).1 (TX9 1).2.1 (TX9 1).2.2.1 ∈ wsX9_record := by decide +kernel
theorem k_X9_record_35 : Cond.fieldLink yX9_record.cls 35 (TX9 2).1 (TX9 2).2.1 (TX9 2).2.2.1 ∈ wsX9_record := by decide +kernel
set_option maxRecDepth 100000 in
set_option maxHeartbeats 4000000 in
theorem c_X9_record (l : Launch) (D : va_G) {ad : Nat → Nat} (cA : Nat → ClassId) (had : adok ad) (M : Mem) (hw : RW M) : CtV l yX9_record wsX9_record 1 24 D ad cA [.ref (ad 105)] M (fun M1 => (PUSH (M 105 2) (hvR M) (aR M) (M1 105 2) (hvR M1) ∧ HRi M1) ∧ eqx M M1 [105, 107] ∧ (∀ k : Nat, k ≠ 2 → M1 105 k = M 105 k)) := by
  refine CtV.of (cc := cX9_record) (maxL := 2) (ret := none) had (by decide) rfl (Nat.le_of_ble_eq_true rfl) ?_
  intro p e s m args below meth c X hm
  show VV p l e { frames := 1, cells := 0, slots := 0, locals := 24 } s m args below meth c 2 D ad cA (Afr ad s.heap.size) 0 0 (QV below args s D ad cA (fun M1 => (PUSH (M 105 2) (hvR M) (aR M) (M1 105 2) (hvR M1) ∧ HRi M1) ∧ eqx M M1 [105, 107] ∧ (∀ k : Nat, k ≠ 2 → M1 105 k = M 105 k))) M 0 [(0, .ref (ad 105))] []
  have hHi := hw.2.1
  unfold HRi at hHi
  refine vv_aload_n X 0 rfl rfl dX9_record_0 ?_
  refine vv_geti (Nf := 20) (ref := (TX9 2).1) (z := (M 105 2)) X (by decide) sh_105 rfl 2 (by decide) u_X9_record_9 k_X9_record_35 rfl rfl (rfl) dX9_record_1 ?_
  refine vv_bipush (n := 6) X (by decide) dX9_record_4 ?_
  refine vv_icmp_ne (tgt := 49) X (by omega) (by omega) dX9_record_6 (by decide) (fun c_6 => ?_) (fun c_6 => ?_)
  · skip
    have hr6 : M 105 2 < 6 := by omega
    refine vv_aload_n X 0 rfl rfl dX9_record_49 ?_
    refine vv_getr (Nf := 20) (ref := (TX9 0).1) X (by decide) sh_105 rfl 0 (by decide) u_X9_record_9 k_X9_record_7 rfl rfl dX9_record_50 ?_
    refine vv_iconst (n := 0) X dX9_record_53 ?_
    refine vv_aload_n X 0 rfl rfl dX9_record_54 ?_
    refine vv_getr (Nf := 20) (ref := (TX9 1).1) X (by decide) sh_105 rfl 1 (by decide) u_X9_record_9 k_X9_record_13 rfl rfl dX9_record_55 ?_
    refine vv_aload_n X 0 rfl rfl dX9_record_58 ?_
    refine vv_geti (Nf := 20) (ref := (TX9 2).1) (z := (M 105 2)) X (by decide) sh_105 rfl 2 (by decide) u_X9_record_9 k_X9_record_35 rfl rfl (rfl) dX9_record_59 ?_
    refine vv_bipush (n := 35) X (by decide) dX9_record_62 ?_
    refine vv_imul X dX9_record_64 ?_
    refine vv_callSV (As := [.ref (ad 106), .int (zI 0), .ref (ad 107), .int (zI ((M 105 2) * 35))]) (st := []) X 4 (c_X9_moves_106_107 l D cA had M 0 ((M 105 2) * 35) (by omega) (by omega)) gX9_record_X9_moves rfl (by decide +kernel) ⟨by decide, by decide⟩ (Nat.le_of_ble_eq_true rfl) ⟨by decide, by decide⟩ rfl rfl dX9_record_65 (fun Mc65 q_65 => ?_)
    have e2 : Mc65 105 2 = M 105 2 := by rw [q_65]; rfl
    refine vv_aload_n X 0 rfl rfl dX9_record_68 ?_
    refine vv_dup X rfl dX9_record_69 ?_
    refine vv_geti (Nf := 20) (ref := (TX9 2).1) (z := (Mc65 105 2)) X (by decide) sh_105 rfl 2 (by decide) u_X9_record_9 k_X9_record_35 rfl rfl (rfl) dX9_record_70 ?_
    refine vv_iconst (n := 1) X dX9_record_73 ?_
    refine vv_iadd X dX9_record_74 ?_
    refine vv_puti (Nf := 20) (ref := (TX9 2).1) X (by decide) sh_105 rfl 2 (by decide) u_X9_record_9 k_X9_record_35 rfl tyX9_ok nmX9 rfl (by decide +kernel) rfl rfl dX9_record_75 ?_
    exact vv_vret X hm (by
      have ho : ∀ a, a ≠ 105 → a ≠ 107 → (up2 Mc65 105 2 (Mc65 105 2 + 1)) a = M a := fun a h1 h2 => by
        rw [up2_n _ _ _ h1, q_65, stc_n _ _ h2]
      refine ⟨rec_of hw (fun j hj => ?_) ?_, fun a ha => ho a (by simp at ha; omega) (by simp at ha; omega), fun k hk => ?_⟩
      · rw [if_neg (show ¬ M 105 2 = 6 by omega), up2_n _ _ _ (by decide), q_65, stc_s]
        by_cases q : 35 * (M 105 2).toNat ≤ j ∧ j < 35 * (M 105 2).toNat + 35
        · rw [if_pos q, if_pos (by omega)]
          exact congrArg (M 106) (by omega)
        · rw [if_neg q, if_neg (by omega)]
      · rw [up2_s, e2, if_pos hr6]
      · rw [up2_m _ _ _ hk, q_65]
        rfl) dX9_record_78
  · skip
    refine vv_iconst (n := 0) X dX9_record_9 ?_
    refine vv_istore_n (lv' := [(1, .int (zI 0)), (0, .ref (ad 105))]) X rfl (by decide) rfl dX9_record_10 ?_
    have loop_11 : ∀ (n : Nat) (M_11 : Mem) (a1 : Int), 0 ≤ a1 ∧ a1 ≤ 175 → eqx M M_11 [107] → (∀ j : Nat, M_11 107 j = if (j : Int) < a1 then M 107 (j + 35) else M 107 j) → (175 - a1).toNat < n → VV p l e { frames := 1, cells := 0, slots := 0, locals := 24 } s m args below meth c 2 D ad cA (Afr ad s.heap.size) 0 0 (QV below args s D ad cA (fun M1 => (PUSH (M 105 2) (hvR M) (aR M) (M1 105 2) (hvR M1) ∧ HRi M1) ∧ eqx M M1 [105, 107] ∧ (∀ k : Nat, k ≠ 2 → M1 105 k = M 105 k))) M_11 11 [(0, .ref (ad 105)), (1, .int (zI a1))] [] := by
      intro n
      induction n with
      | zero => intro M_11 a1 h1 hE hj hn; exact absurd hn (Nat.not_lt_zero _)
      | succ n ih_11 =>
        intro M_11 a1 h1 hE hj hn
        have e_11_105 : M_11 105 = M 105 := hE 105 (by decide)
        have e_11_106 : M_11 106 = M 106 := hE 106 (by decide)
        have h6 : (a1 + 35).toNat = a1.toNat + 35 := by omega
        refine vv_iload_n X 1 rfl rfl dX9_record_11 ?_
        refine vv_sipush (n := 175) X (by decide) dX9_record_12 ?_
        refine vv_icmp_ge (tgt := 39) X (by omega) (by omega) dX9_record_15 (by decide) (fun c_15 => ?_) (fun c_15 => ?_)
        · skip
          refine vv_aload_n X 0 rfl rfl dX9_record_39 ?_
          refine vv_dup X rfl dX9_record_40 ?_
          refine vv_geti (Nf := 20) (ref := (TX9 2).1) (z := (M 105 2)) X (by decide) sh_105 rfl 2 (by decide) u_X9_record_9 k_X9_record_35 rfl rfl (show M_11 105 2 = M 105 2 from by rw [e_11_105]) dX9_record_41 ?_
          refine vv_iconst (n := 1) X dX9_record_44 ?_
          refine vv_isub X dX9_record_45 ?_
          refine vv_puti (Nf := 20) (ref := (TX9 2).1) X (by decide) sh_105 rfl 2 (by decide) u_X9_record_9 k_X9_record_35 rfl tyX9_ok nmX9 rfl (by decide +kernel) rfl rfl dX9_record_46 ?_
          have hr6 : M 105 2 = 6 := by omega
          refine vv_aload_n X 0 rfl rfl dX9_record_49 ?_
          refine vv_getr (Nf := 20) (ref := (TX9 0).1) X (by decide) sh_105 rfl 0 (by decide) u_X9_record_9 k_X9_record_7 rfl rfl dX9_record_50 ?_
          refine vv_iconst (n := 0) X dX9_record_53 ?_
          refine vv_aload_n X 0 rfl rfl dX9_record_54 ?_
          refine vv_getr (Nf := 20) (ref := (TX9 1).1) X (by decide) sh_105 rfl 1 (by decide) u_X9_record_9 k_X9_record_13 rfl rfl dX9_record_55 ?_
          refine vv_aload_n X 0 rfl rfl dX9_record_58 ?_
          refine vv_geti (Nf := 20) (ref := (TX9 2).1) (z := ((M 105 2) - 1)) X (by decide) sh_105 rfl 2 (by decide) u_X9_record_9 k_X9_record_35 rfl rfl (rfl) dX9_record_59 ?_
          refine vv_bipush (n := 35) X (by decide) dX9_record_62 ?_
          refine vv_imul X dX9_record_64 ?_
          refine vv_callSV (As := [.ref (ad 106), .int (zI 0), .ref (ad 107), .int (zI (((M 105 2) - 1) * 35))]) (st := []) X 4 (c_X9_moves_106_107 l D cA had (up2 M_11 105 2 ((M 105 2) - 1)) 0 (((M 105 2) - 1) * 35) (by omega) (by omega)) gX9_record_X9_moves rfl (by decide +kernel) ⟨by decide, by decide⟩ (Nat.le_of_ble_eq_true rfl) ⟨by decide, by decide⟩ rfl rfl dX9_record_65 (fun Mc65 q_65 => ?_)
          have e2 : Mc65 105 2 = M 105 2 - 1 := by rw [q_65]; rfl
          refine vv_aload_n X 0 rfl rfl dX9_record_68 ?_
          refine vv_dup X rfl dX9_record_69 ?_
          refine vv_geti (Nf := 20) (ref := (TX9 2).1) (z := (Mc65 105 2)) X (by decide) sh_105 rfl 2 (by decide) u_X9_record_9 k_X9_record_35 rfl rfl (rfl) dX9_record_70 ?_
          refine vv_iconst (n := 1) X dX9_record_73 ?_
          refine vv_iadd X dX9_record_74 ?_
          refine vv_puti (Nf := 20) (ref := (TX9 2).1) X (by decide) sh_105 rfl 2 (by decide) u_X9_record_9 k_X9_record_35 rfl tyX9_ok nmX9 rfl (by decide +kernel) rfl rfl dX9_record_75 ?_
          exact vv_vret X hm (by
            have ho : ∀ a, a ≠ 105 → a ≠ 107 → (up2 Mc65 105 2 (Mc65 105 2 + 1)) a = M a := fun a h1 h2 => by
              rw [up2_n _ _ _ h1, q_65, stc_n _ _ h2, up2_n _ _ _ h1]
              exact hE a (by simp; exact h2)
            have e107 : ∀ j, (up2 M_11 105 2 (M 105 2 - 1)) 107 j = M_11 107 j := fun j => by rw [up2_n _ _ _ (by decide)]
            have e106 : ∀ j, (up2 M_11 105 2 (M 105 2 - 1)) 106 j = M 106 j := fun j => by rw [up2_n _ _ _ (by decide), hE 106 (by decide)]
            refine ⟨rec_of hw (fun j hj' => ?_) ?_, fun a ha => ho a (by simp at ha; omega) (by simp at ha; omega), fun k hk => ?_⟩
            · rw [if_pos hr6, up2_n _ _ _ (by decide), q_65, stc_s]
              have hjj := hj j
              by_cases q : j < 175
              · rw [if_pos q, if_neg (by omega), e107, hjj, if_pos (by omega)]
              · rw [if_neg q, if_pos (by omega), e106]
                exact congrArg (M 106) (by omega)
            · rw [up2_s, e2, if_neg (by omega)]
              omega
            · rw [up2_m _ _ _ hk, q_65, stc_n _ _ (by decide), up2_m _ _ _ hk, hE 105 (by decide)]) dX9_record_78
        · skip
          refine vv_aload_n X 0 rfl rfl dX9_record_18 ?_
          refine vv_getr (Nf := 20) (ref := (TX9 1).1) X (by decide) sh_105 rfl 1 (by decide) u_X9_record_9 k_X9_record_13 rfl rfl dX9_record_19 ?_
          refine vv_iload_n X 1 rfl rfl dX9_record_22 ?_
          refine vv_aload_n X 0 rfl rfl dX9_record_23 ?_
          refine vv_getr (Nf := 20) (ref := (TX9 1).1) X (by decide) sh_105 rfl 1 (by decide) u_X9_record_9 k_X9_record_13 rfl rfl dX9_record_24 ?_
          refine vv_iload_n X 1 rfl rfl dX9_record_27 ?_
          refine vv_bipush (n := 35) X (by decide) dX9_record_28 ?_
          refine vv_iadd X dX9_record_30 ?_
          refine vv_iald (z := (M_11 107 (a1.toNat + 35))) X (by decide) sh_107 (by decide) (by omega) (by first | (rw [h6]; done) | (rw [h6]; exact (rfl))) dX9_record_31 ?_
          refine vv_iast (ix := (Int.toNat a1)) X (by decide) sh_107 (by decide) (by omega) (rfl) dX9_record_32 ?_
          refine vv_iinc (lv' := [(1, .int (zI (a1 + 1))), (0, .ref (ad 105))]) X 1 rfl (by decide) rfl dX9_record_33 ?_
          refine vv_goto (tgt := 11) X (by decide) dX9_record_36 ?_
          refine vv_sub (lv' := [(0, .ref (ad 105)), (1, .int (zI (a1 + 1)))]) [1, 0] rfl ?_
          exact ih_11 (up2 M_11 107 (Int.toNat a1) (M_11 107 (a1.toNat + 35))) (a1 + 1) (by omega) (eqx_up _ _ hE (by decide)) (fun j => by
            show uz (M_11 107) a1.toNat _ j = _
            unfold uz
            have hjj := hj j
            by_cases q : j = a1.toNat
            · rw [if_pos q, if_pos (by omega), hj, if_neg (by omega), q]
            · rw [if_neg q, hjj]
              by_cases q2 : (j : Int) < a1
              · rw [if_pos q2, if_pos (by omega)]
              · rw [if_neg q2, if_neg (by omega)]) (by omega)
    refine vv_sub (lv' := [(0, .ref (ad 105)), (1, .int (zI 0))]) [1, 0] rfl ?_
    exact loop_11 _ M 0 (by omega) (eqx_rf _ _) (fun j => by rw [if_neg (by omega)]) (Nat.lt_succ_self _)
theorem u_X9_takesOne_9 : ∀ w ∈ u_ws RX9 TX9 20, w ∈ wsX9_takesOne := by decide +kernel
theorem k_X9_takesOne_72 : Cond.fieldLink yX9_takesOne.cls 72 (TX9 9).1 (TX9 9).2.1 (TX9 9).2.2.1 ∈ wsX9_takesOne := by decide +kernel
set_option maxRecDepth 100000 in
set_option maxHeartbeats 4000000 in
theorem c_X9_takesOne (l : Launch) (D : va_G) {ad : Nat → Nat} (cA : Nat → ClassId) (had : adok ad) (M : Mem) (v x : Int) (hv : v = 1) (hx : 0 ≤ x ∧ x ≤ 100) (hn : M 106 1 ≤ 5) : CtV l yX9_takesOne wsX9_takesOne 1 24 D ad cA [.ref (ad 105), .int (zI v), .int (zI x)] M (fun M1 => eqA ((aR M).1, (aR M).2.1, (aR M).2.2.1, 1, (fun _ => 1), (fun _ => x)) (aR M1) ∧ eqx M M1 [105, 106, 111, 112] ∧ (∀ k : Nat, k ≠ 9 → M1 105 k = M 105 k)) := by
  refine CtV.of (cc := cX9_takesOne) (maxL := 3) (ret := none) had (by decide) rfl (Nat.le_of_ble_eq_true rfl) ?_
  intro p e s m args below meth c X hm
  show VV p l e { frames := 1, cells := 0, slots := 0, locals := 24 } s m args below meth c 3 D ad cA (Afr ad s.heap.size) 0 0 (QV below args s D ad cA (fun M1 => eqA ((aR M).1, (aR M).2.1, (aR M).2.2.1, 1, (fun _ => 1), (fun _ => x)) (aR M1) ∧ eqx M M1 [105, 106, 111, 112] ∧ (∀ k : Nat, k ≠ 9 → M1 105 k = M 105 k))) M 0 [(0, .ref (ad 105)), (1, .int (zI v)), (2, .int (zI x))] []
  refine vv_aload_n X 0 rfl rfl dX9_takesOne_0 ?_
  refine vv_iconst (n := 0) X dX9_takesOne_1 ?_
  refine vv_puti (Nf := 20) (ref := (TX9 9).1) X (by decide) sh_105 rfl 9 (by decide) u_X9_takesOne_9 k_X9_takesOne_72 rfl tyX9_ok nmX9 rfl (by decide +kernel) rfl rfl dX9_takesOne_2 ?_
  refine vv_aload_n X 0 rfl rfl dX9_takesOne_5 ?_
  refine vv_iload_n X 1 rfl rfl dX9_takesOne_6 ?_
  refine vv_iload_n X 2 rfl rfl dX9_takesOne_7 ?_
  refine vv_callVV (As := [.int (zI v), .int (zI x)]) (st := []) (Nf := 20) X 2 (c_X9_takes l D cA had (up2 M 105 9 0) v x (fun _ => 0) (by omega) (by omega) (by omega) (by omega) (fun _ => Int.le_refl _) (by rw [up2_s]; exact SplitOf_0) (by rw [up2_s]; decide)) gX9_takesOne_X9_takes rfl (by decide +kernel) ⟨by decide, by decide⟩ (Nat.le_of_ble_eq_true rfl) ⟨by decide, by decide⟩ rfl (by decide) sh_105 rfl rfl dX9_takesOne_8 (fun Ma qa => ?_)
  obtain ⟨qE, qk, qS, qm⟩ := qa
  rw [hv] at qS
  obtain ⟨u1, u2⟩ := SplitOf_uniq (one_F hx) qS (fun _ _ => rfl)
  refine vv_aload_n X 0 rfl rfl dX9_takesOne_11 ?_
  refine vv_callVV (As := []) (st := []) (Nf := 20) X 0 (c_X9_gives l D cA had Ma (by omega)) gX9_takesOne_X9_gives rfl (by decide +kernel) ⟨by decide, by decide⟩ (Nat.le_of_ble_eq_true rfl) ⟨by decide, by decide⟩ rfl (by decide) sh_105 rfl rfl dX9_takesOne_12 (fun Mb qb => ?_)
  exact vv_vret X hm (by
    obtain ⟨gE, gj⟩ := qb
    have hE : eqx M Ma [105, 106, 111, 112] := eqx_tr (eqx_up 9 0 (eqx_rf M _) (by decide)) (eqx_mono qE (by decide))
    have e106 : Ma 106 = M 106 := (qE 106 (by decide)).trans (up2_n _ _ _ (by decide))
    have eA : aR Ma = aR M := aR_eq e106
    have h := gives_A gj (by rw [e106]; exact hn) (by omega)
    rw [eA] at h
    have hm : eqA ((aR M).1, (aR M).2.1, (aR M).2.2.1, (1 : Int), (fun _ => (1 : Int)), (fun _ => x)) ((aR M).1, (aR M).2.1, (aR M).2.2.1, Ma 105 9, Ma 111, Ma 112) := ⟨rfl, rfl, fun _ _ _ _ => rfl, u1, u2⟩
    refine ⟨eqA_tr hm h, eqx_tr hE (eqx_mono gE (by decide)), fun k hk => ?_⟩
    rw [gE 105 (by decide), qk k hk, up2_m _ _ _ hk]) dX9_takesOne_15
theorem u_X9_begins_9 : ∀ w ∈ u_ws RX9 TX9 20, w ∈ wsX9_begins := by decide +kernel
theorem k_X9_begins_7 : Cond.fieldLink yX9_begins.cls 7 (TX9 0).1 (TX9 0).2.1 (TX9 0).2.2.1 ∈ wsX9_begins := by decide +kernel
set_option maxRecDepth 100000 in
set_option maxHeartbeats 4000000 in
theorem c_X9_begins (l : Launch) (D : va_G) {ad : Nat → Nat} (cA : Nat → ClassId) (had : adok ad) (M : Mem) (x : Int) (hx : 0 ≤ x ∧ x ≤ 100) (hn : M 106 1 ≤ 5) : CtV l yX9_begins wsX9_begins 2 46 D ad cA [.ref (ad 105), .int (zI x)] M (fun M1 => eqA (x, (aR M).2.1, (aR M).2.2.1, 1, (fun _ => 1), (fun _ => x)) (aR M1) ∧ eqx M M1 [105, 106, 111, 112] ∧ (∀ k : Nat, k ≠ 9 → M1 105 k = M 105 k)) := by
  refine CtV.of (cc := cX9_begins) (maxL := 2) (ret := none) had (by decide) rfl (Nat.le_of_ble_eq_true rfl) ?_
  intro p e s m args below meth c X hm
  show VV p l e { frames := 2, cells := 0, slots := 0, locals := 46 } s m args below meth c 2 D ad cA (Afr ad s.heap.size) 0 0 (QV below args s D ad cA (fun M1 => eqA (x, (aR M).2.1, (aR M).2.2.1, 1, (fun _ => 1), (fun _ => x)) (aR M1) ∧ eqx M M1 [105, 106, 111, 112] ∧ (∀ k : Nat, k ≠ 9 → M1 105 k = M 105 k))) M 0 [(0, .ref (ad 105)), (1, .int (zI x))] []
  refine vv_aload_n X 0 rfl rfl dX9_begins_0 ?_
  refine vv_getr (Nf := 20) (ref := (TX9 0).1) X (by decide) sh_105 rfl 0 (by decide) u_X9_begins_9 k_X9_begins_7 rfl rfl dX9_begins_1 ?_
  refine vv_iconst (n := 0) X dX9_begins_4 ?_
  refine vv_iload_n X 1 rfl rfl dX9_begins_5 ?_
  refine vv_iast (ix := 0) X (by decide) sh_106 (by decide) (by omega) (rfl) dX9_begins_6 ?_
  refine vv_aload_n X 0 rfl rfl dX9_begins_7 ?_
  refine vv_iconst (n := 1) X dX9_begins_8 ?_
  refine vv_iload_n X 1 rfl rfl dX9_begins_9 ?_
  refine vv_callVV (As := [.int (zI 1), .int (zI x)]) (st := []) (Nf := 20) X 2 (c_X9_takesOne l D cA had (up2 M 106 0 x) 1 x (rfl) (by omega) (by rw [up2_m _ _ _ (by decide)]; exact hn)) gX9_begins_X9_takesOne rfl (by decide +kernel) ⟨by decide, by decide⟩ (Nat.le_of_ble_eq_true rfl) ⟨by decide, by decide⟩ rfl (by decide) sh_105 rfl rfl dX9_begins_10 (fun Ma qa => ?_)
  exact vv_vret X hm (by
    obtain ⟨h1, h2, h3⟩ := qa
    have e1 : ∀ j, j ≠ 0 → (up2 M 106 0 x) 106 j = M 106 j := fun j hj => up2_m _ _ _ hj
    have hm : eqA (x, (aR M).2.1, (aR M).2.2.1, (1 : Int), (fun _ => (1 : Int)), (fun _ => x)) ((aR (up2 M 106 0 x)).1, (aR (up2 M 106 0 x)).2.1, (aR (up2 M 106 0 x)).2.2.1, (1 : Int), (fun _ => (1 : Int)), (fun _ => x)) := by
     refine ⟨rfl, ?_, fun c k hc hk => ?_, rfl, fun _ _ => ⟨rfl, rfl⟩⟩
     · exact (e1 1 (by decide)).symm
     · rcases (show c = 0 ∨ c = 1 ∨ c = 2 ∨ c = 3 by omega) with q | q | q | q <;> subst q
       · exact (e1 (3 + 4 * k) (by omega)).symm
       · exact (e1 (4 + 4 * k) (by omega)).symm
       · exact (e1 (5 + 4 * k) (by omega)).symm
       · exact (e1 (6 + 4 * k) (by omega)).symm
    exact ⟨eqA_tr hm h1, eqx_tr (eqx_up _ _ (eqx_rf _ _) (by decide)) h2, fun k hk => by rw [h3 k hk, up2_n _ _ _ (by decide)]⟩) dX9_begins_13
set_option maxRecDepth 100000 in
set_option maxHeartbeats 4000000 in
theorem c_X9_priors (l : Launch) (D : va_G) {ad : Nat → Nat} (cA : Nat → ClassId) (had : adok ad) (M : Mem) (x : Int) (hx : 0 ≤ x ∧ x ≤ 100) (hn : M 106 1 ≤ 5) : CtV l yX9_priors wsX9_priors 3 67 D ad cA [.ref (ad 105), .int (zI x)] M (fun M1 => eqA (x, (aR M).2.1, (aR M).2.2.1, 1, (fun _ => 1), (fun _ => x)) (aR M1) ∧ eqx M M1 [105, 106, 111, 112] ∧ (∀ k : Nat, k ≠ 9 → M1 105 k = M 105 k)) := by
  refine CtV.of (cc := cX9_priors) (maxL := 2) (ret := none) had (by decide) rfl (Nat.le_of_ble_eq_true rfl) ?_
  intro p e s m args below meth c X hm
  show VV p l e { frames := 3, cells := 0, slots := 0, locals := 67 } s m args below meth c 2 D ad cA (Afr ad s.heap.size) 0 0 (QV below args s D ad cA (fun M1 => eqA (x, (aR M).2.1, (aR M).2.2.1, 1, (fun _ => 1), (fun _ => x)) (aR M1) ∧ eqx M M1 [105, 106, 111, 112] ∧ (∀ k : Nat, k ≠ 9 → M1 105 k = M 105 k))) M 0 [(0, .ref (ad 105)), (1, .int (zI x))] []
  refine vv_aload_n X 0 rfl rfl dX9_priors_0 ?_
  refine vv_iload_n X 1 rfl rfl dX9_priors_1 ?_
  refine vv_callVV (As := [.int (zI x)]) (st := []) (Nf := 20) X 1 (c_X9_begins l D cA had M x (by omega) (by omega)) gX9_priors_X9_begins rfl (by decide +kernel) ⟨by decide, by decide⟩ (Nat.le_of_ble_eq_true rfl) ⟨by decide, by decide⟩ rfl (by decide) sh_105 rfl rfl dX9_priors_2 (fun Ma qa => ?_)
  exact vv_vret X hm (qa) dX9_priors_5
theorem u_X9_prior_9 : ∀ w ∈ u_ws RX9 TX9 20, w ∈ wsX9_prior := by decide +kernel
theorem k_X9_prior_7 : Cond.fieldLink yX9_prior.cls 7 (TX9 0).1 (TX9 0).2.1 (TX9 0).2.2.1 ∈ wsX9_prior := by decide +kernel
set_option maxRecDepth 100000 in
set_option maxHeartbeats 4000000 in
theorem c_X9_prior (l : Launch) (D : va_G) {ad : Nat → Nat} (cA : Nat → ClassId) (had : adok ad) (M : Mem) (x : Int) (hx : -2147483648 ≤ x ∧ x ≤ 2147483647) (hw : RW M) : CtI l yX9_prior wsX9_prior 4 88 D ad cA [.ref (ad 105), .int (zI x)] M (fun z M1 => rChg (opP x) (M 105 6) M z M1) := by
  refine CtI.of (cc := cX9_prior) (maxL := 3) (ret := (some .int)) had (by decide) rfl (Nat.le_of_ble_eq_true rfl) ?_
  intro p e s m args below meth c X hm
  show VV p l e { frames := 4, cells := 0, slots := 0, locals := 88 } s m args below meth c 3 D ad cA (Afr ad s.heap.size) 0 0 (QI below args s D ad cA (fun z M1 => rChg (opP x) (M 105 6) M z M1)) M 0 [(0, .ref (ad 105)), (1, .int (zI x))] []
  have hw0 := hw
  obtain ⟨hwA, hHi, hwh⟩ := hw
  have hW : rWR M := hwA.2.1
  have hn5 : 0 ≤ M 106 1 ∧ M 106 1 ≤ 5 := by
    have q1 := hW.2.1
    have q2 := hW.1
    omega
  have hsm : 1 ≤ M 106 2 ∧ M 106 2 ≤ 6 := WFs_pos hwA.2.2
  have hwb : ∀ k : Nat, (k : Int) < M 106 2 → (1 ≤ M 106 (23 + k) ∧ M 106 (23 + k) ≤ 999) ∧ (0 ≤ M 106 (29 + k) ∧ M 106 (29 + k) ≤ 100) := fun k hk => WFs_b hwA.2.2 hk
  have hp9 : 1 ≤ M 106 0 ∧ M 106 0 ≤ 99 := hwA.1
  refine vv_iload_n X 1 rfl rfl dX9_prior_0 ?_
  refine vv_iconst (n := 1) X dX9_prior_1 ?_
  refine vv_bipush (n := 99) X (by decide) dX9_prior_2 ?_
  refine vv_callSI (As := [.int (zI x), .int (zI 1), .int (zI 99)]) (st := []) X 3 (c_X9_within l D cA had M x 1 99 (by omega) (by omega) (by omega)) gX9_prior_X9_within rfl (by decide +kernel) ⟨by decide, by decide⟩ (Nat.le_of_ble_eq_true rfl) ⟨by decide, by decide⟩ rfl rfl dX9_prior_4 (fun z4 Mc4 q_4 => ?_)
  obtain ⟨e_z4, g_z4⟩ := q_4
  have g_z4 := g_z4.symm
  subst g_z4
  refine vv_if_ne (tgt := 13) X (by rw [e_z4]; split <;> omega) dX9_prior_7 (by decide) (fun c_7 => ?_) (fun c_7 => ?_)
  · skip
    have hin : 1 ≤ x ∧ x ≤ 99 := Classical.byContradiction fun q => by rw [if_neg q] at e_z4; omega
    refine vv_aload_n X 0 rfl rfl dX9_prior_13 ?_
    refine vv_callVV (As := []) (st := []) (Nf := 20) X 0 (c_X9_record l D cA had M (hw0)) gX9_prior_X9_record rfl (by decide +kernel) ⟨by decide, by decide⟩ (Nat.le_of_ble_eq_true rfl) ⟨by decide, by decide⟩ rfl (by decide) sh_105 rfl rfl dX9_prior_14 (fun Mr qr => ?_)
    obtain ⟨⟨rP, rH⟩, rE, rk⟩ := qr
    have r106 : Mr 106 = M 106 := rE 106 (by decide)
    have rA : aR Mr = aR M := aR_eq r106
    refine vv_aload_n X 0 rfl rfl dX9_prior_17 ?_
    refine vv_getr (Nf := 20) (ref := (TX9 0).1) X (by decide) sh_105 rfl 0 (by decide) u_X9_prior_9 k_X9_prior_7 rfl rfl dX9_prior_18 ?_
    refine vv_iconst (n := 0) X dX9_prior_21 ?_
    refine vv_iald (z := (Mr 106 0)) X (by decide) sh_106 (by decide) (by omega) (rfl) dX9_prior_22 ?_
    refine vv_istore_n (lv' := [(2, .int (zI (Mr 106 0))), (0, .ref (ad 105)), (1, .int (zI x))]) X rfl (by decide) rfl dX9_prior_23 ?_
    refine vv_aload_n X 1 rfl rfl dX9_prior_24 ?_
    refine vv_iload_n X 2 rfl rfl dX9_prior_25 ?_
    refine vv_callVV (As := [.int (zI x)]) (st := []) (Nf := 20) X 1 (c_X9_priors l D cA had Mr x (by omega) (by rw [r106]; exact hn5.2)) gX9_prior_X9_priors rfl (by decide +kernel) ⟨by decide, by decide⟩ (Nat.le_of_ble_eq_true rfl) ⟨by decide, by decide⟩ rfl (by decide) sh_105 rfl rfl dX9_prior_26 (fun Ma qa => ?_)
    refine vv_iload_n X 0 rfl rfl dX9_prior_29 ?_
    exact vv_iret X hm (by
      obtain ⟨h1, h2, h3⟩ := qa
      rw [rA] at h1
      refine rChg_yes rP rH rE h2 (h3 2 (by decide)) ?_ ?_ ⟨fun q => absurd hin q, fun _ => ⟨?_, h1⟩⟩
      · rw [h3 6 (by decide), rk 6 (by decide)]
      · rw [r106]; omega
      · rw [r106]; rfl) dX9_prior_30
  · skip
    have hin : ¬ (1 ≤ x ∧ x ≤ 99) := fun q => by rw [if_pos q] at e_z4; omega
    refine vv_bipush (n := (-2)) X (by decide) dX9_prior_10 ?_
    exact vv_iret X hm (rChg_no hHi (by decide) ⟨fun _ => ⟨rfl, eqA_rf _⟩, fun q => absurd q hin⟩ (eqx_rf _ _) rfl rfl) dX9_prior_12
theorem u_X9_whyNotHired_9 : ∀ w ∈ u_ws RX9 TX9 20, w ∈ wsX9_whyNotHired := by decide +kernel
theorem k_X9_whyNotHired_7 : Cond.fieldLink yX9_whyNotHired.cls 7 (TX9 0).1 (TX9 0).2.1 (TX9 0).2.2.1 ∈ wsX9_whyNotHired := by decide +kernel
set_option maxRecDepth 100000 in
set_option maxHeartbeats 4000000 in
theorem c_X9_whyNotHired (l : Launch) (D : va_G) {ad : Nat → Nat} (cA : Nat → ClassId) (had : adok ad) (M : Mem) (a b u v : Int) (ha : -2147483648 ≤ a ∧ a ≤ 2147483647) (hb : -2147483648 ≤ b ∧ b ≤ 2147483647) (hu : -2147483648 ≤ u ∧ u ≤ 2147483647) (hv : -2147483648 ≤ v ∧ v ≤ 2147483647) (hn : 0 ≤ M 106 1 ∧ M 106 1 ≤ 5) : CtI l yX9_whyNotHired wsX9_whyNotHired 1 22 D ad cA [.ref (ad 105), .int (zI a), .int (zI b), .int (zI u), .int (zI v)] M (fun z M1 => z = (if ADM a b u v then (if M 106 1 = 5 then -4 else 0) else -2) ∧ M1 = M) := by
  refine CtI.of (cc := cX9_whyNotHired) (maxL := 5) (ret := (some .int)) had (by decide) rfl (Nat.le_of_ble_eq_true rfl) ?_
  intro p e s m args below meth c X hm
  show VV p l e { frames := 1, cells := 0, slots := 0, locals := 22 } s m args below meth c 5 D ad cA (Afr ad s.heap.size) 0 0 (QI below args s D ad cA (fun z M1 => z = (if ADM a b u v then (if M 106 1 = 5 then -4 else 0) else -2) ∧ M1 = M)) M 0 [(0, .ref (ad 105)), (1, .int (zI a)), (2, .int (zI b)), (3, .int (zI u)), (4, .int (zI v))] []
  refine vv_iload_n X 1 rfl rfl dX9_whyNotHired_0 ?_
  refine vv_iconst (n := 1) X dX9_whyNotHired_1 ?_
  refine vv_bipush (n := 99) X (by decide) dX9_whyNotHired_2 ?_
  refine vv_callSI (As := [.int (zI a), .int (zI 1), .int (zI 99)]) (st := []) X 3 (c_X9_within l D cA had M a 1 99 (by omega) (by omega) (by omega)) gX9_whyNotHired_X9_within rfl (by decide +kernel) ⟨by decide, by decide⟩ (Nat.le_of_ble_eq_true rfl) ⟨by decide, by decide⟩ rfl rfl dX9_whyNotHired_4 (fun z4 Mc4 q_4 => ?_)
  obtain ⟨e_z4, g_z4⟩ := q_4
  have g_z4 := g_z4.symm
  subst g_z4
  refine vv_if_eq (tgt := 42) X (by rw [e_z4]; split <;> omega) dX9_whyNotHired_7 (by decide) (fun c_7 => ?_) (fun c_7 => ?_)
  · skip
    refine vv_bipush (n := (-2)) X (by decide) dX9_whyNotHired_42 ?_
    exact vv_iret X hm (⟨by rw [if_neg (fun q : ADM a b u v => by rw [if_pos q.1] at e_z4; omega)], rfl⟩) dX9_whyNotHired_44
  · skip
    refine vv_iload_n X 2 rfl rfl dX9_whyNotHired_10 ?_
    refine vv_iconst (n := 1) X dX9_whyNotHired_11 ?_
    refine vv_bipush (n := 99) X (by decide) dX9_whyNotHired_12 ?_
    refine vv_callSI (As := [.int (zI b), .int (zI 1), .int (zI 99)]) (st := []) X 3 (c_X9_within l D cA had M b 1 99 (by omega) (by omega) (by omega)) gX9_whyNotHired_X9_within rfl (by decide +kernel) ⟨by decide, by decide⟩ (Nat.le_of_ble_eq_true rfl) ⟨by decide, by decide⟩ rfl rfl dX9_whyNotHired_14 (fun z14 Mc14 q_14 => ?_)
    obtain ⟨e_z14, g_z14⟩ := q_14
    have g_z14 := g_z14.symm
    subst g_z14
    refine vv_if_eq (tgt := 42) X (by rw [e_z14]; split <;> omega) dX9_whyNotHired_17 (by decide) (fun c_17 => ?_) (fun c_17 => ?_)
    · skip
      refine vv_bipush (n := (-2)) X (by decide) dX9_whyNotHired_42 ?_
      exact vv_iret X hm (⟨by rw [if_neg (fun q : ADM a b u v => by rw [if_pos q.2.1] at e_z14; omega)], rfl⟩) dX9_whyNotHired_44
    · skip
      refine vv_iload_n X 3 rfl rfl dX9_whyNotHired_20 ?_
      refine vv_iconst (n := 0) X dX9_whyNotHired_21 ?_
      refine vv_bipush (n := 99) X (by decide) dX9_whyNotHired_22 ?_
      refine vv_callSI (As := [.int (zI u), .int (zI 0), .int (zI 99)]) (st := []) X 3 (c_X9_within l D cA had M u 0 99 (by omega) (by omega) (by omega)) gX9_whyNotHired_X9_within rfl (by decide +kernel) ⟨by decide, by decide⟩ (Nat.le_of_ble_eq_true rfl) ⟨by decide, by decide⟩ rfl rfl dX9_whyNotHired_24 (fun z24 Mc24 q_24 => ?_)
      obtain ⟨e_z24, g_z24⟩ := q_24
      have g_z24 := g_z24.symm
      subst g_z24
      refine vv_if_eq (tgt := 42) X (by rw [e_z24]; split <;> omega) dX9_whyNotHired_27 (by decide) (fun c_27 => ?_) (fun c_27 => ?_)
      · skip
        refine vv_bipush (n := (-2)) X (by decide) dX9_whyNotHired_42 ?_
        exact vv_iret X hm (⟨by rw [if_neg (fun q : ADM a b u v => by rw [if_pos q.2.2.1] at e_z24; omega)], rfl⟩) dX9_whyNotHired_44
      · skip
        refine vv_iload X 4 rfl dX9_whyNotHired_30 ?_
        refine vv_bipush (n := (-99)) X (by decide) dX9_whyNotHired_32 ?_
        refine vv_bipush (n := 99) X (by decide) dX9_whyNotHired_34 ?_
        refine vv_callSI (As := [.int (zI v), .int (zI (-99)), .int (zI 99)]) (st := []) X 3 (c_X9_within l D cA had M v (-99) 99 (by omega) (by omega) (by omega)) gX9_whyNotHired_X9_within rfl (by decide +kernel) ⟨by decide, by decide⟩ (Nat.le_of_ble_eq_true rfl) ⟨by decide, by decide⟩ rfl rfl dX9_whyNotHired_36 (fun z36 Mc36 q_36 => ?_)
        obtain ⟨e_z36, g_z36⟩ := q_36
        have g_z36 := g_z36.symm
        subst g_z36
        refine vv_if_ne (tgt := 45) X (by rw [e_z36]; split <;> omega) dX9_whyNotHired_39 (by decide) (fun c_39 => ?_) (fun c_39 => ?_)
        · skip
          have hin : ADM a b u v := ⟨Classical.byContradiction fun q => by rw [if_neg q] at e_z4; omega, Classical.byContradiction fun q => by rw [if_neg q] at e_z14; omega, Classical.byContradiction fun q => by rw [if_neg q] at e_z24; omega, Classical.byContradiction fun q => by rw [if_neg q] at e_z36; omega⟩
          refine vv_aload_n X 0 rfl rfl dX9_whyNotHired_45 ?_
          refine vv_getr (Nf := 20) (ref := (TX9 0).1) X (by decide) sh_105 rfl 0 (by decide) u_X9_whyNotHired_9 k_X9_whyNotHired_7 rfl rfl dX9_whyNotHired_46 ?_
          refine vv_iconst (n := 1) X dX9_whyNotHired_49 ?_
          refine vv_iald (z := (M 106 1)) X (by decide) sh_106 (by decide) (by omega) (rfl) dX9_whyNotHired_50 ?_
          refine vv_iconst (n := 5) X dX9_whyNotHired_51 ?_
          refine vv_icmp_ne (tgt := 60) X (by omega) (by omega) dX9_whyNotHired_52 (by decide) (fun c_52 => ?_) (fun c_52 => ?_)
          · skip
            refine vv_iconst (n := 0) X dX9_whyNotHired_60 ?_
            exact vv_iret X hm (⟨by rw [if_pos hin]; first | rw [if_pos (by omega)] | rw [if_neg (by omega)], rfl⟩) dX9_whyNotHired_61
          · skip
            refine vv_bipush (n := (-4)) X (by decide) dX9_whyNotHired_55 ?_
            refine vv_goto (tgt := 61) X (by decide) dX9_whyNotHired_57 ?_
            exact vv_iret X hm (⟨by rw [if_pos hin]; first | rw [if_pos (by omega)] | rw [if_neg (by omega)], rfl⟩) dX9_whyNotHired_61
        · skip
          refine vv_bipush (n := (-2)) X (by decide) dX9_whyNotHired_42 ?_
          exact vv_iret X hm (⟨by rw [if_neg (fun q : ADM a b u v => by rw [if_pos q.2.2.2] at e_z36; omega)], rfl⟩) dX9_whyNotHired_44
theorem u_X9_hires_9 : ∀ w ∈ u_ws RX9 TX9 20, w ∈ wsX9_hires := by decide +kernel
theorem k_X9_hires_7 : Cond.fieldLink yX9_hires.cls 7 (TX9 0).1 (TX9 0).2.1 (TX9 0).2.2.1 ∈ wsX9_hires := by decide +kernel
set_option maxRecDepth 100000 in
set_option maxHeartbeats 4000000 in
theorem c_X9_hires (l : Launch) (D : va_G) {ad : Nat → Nat} (cA : Nat → ClassId) (had : adok ad) (M : Mem) (a b u v : Int) (hn : 0 ≤ M 106 1 ∧ M 106 1 < 5) : CtI l yX9_hires wsX9_hires 0 0 D ad cA [.ref (ad 105), .int (zI a), .int (zI b), .int (zI u), .int (zI v)] M (fun z M1 => z = M 106 1 ∧ eqx M M1 [106] ∧ eqA (admA (aR M) a b u v) (aR M1)) := by
  refine CtI.of (cc := cX9_hires) (maxL := 6) (ret := (some .int)) had (by decide) rfl (Nat.le_of_ble_eq_true rfl) ?_
  intro p e s m args below meth c X hm
  show VV p l e { frames := 0, cells := 0, slots := 0, locals := 0 } s m args below meth c 6 D ad cA (Afr ad s.heap.size) 0 0 (QI below args s D ad cA (fun z M1 => z = M 106 1 ∧ eqx M M1 [106] ∧ eqA (admA (aR M) a b u v) (aR M1))) M 0 [(0, .ref (ad 105)), (1, .int (zI a)), (2, .int (zI b)), (3, .int (zI u)), (4, .int (zI v))] []
  obtain ⟨n, hnn⟩ : ∃ n : Nat, (n : Int) = M 106 1 := ⟨(M 106 1).toNat, by omega⟩
  refine vv_iconst (n := 3) X dX9_hires_0 ?_
  refine vv_iconst (n := 4) X dX9_hires_1 ?_
  refine vv_aload_n X 0 rfl rfl dX9_hires_2 ?_
  refine vv_getr (Nf := 20) (ref := (TX9 0).1) X (by decide) sh_105 rfl 0 (by decide) u_X9_hires_9 k_X9_hires_7 rfl rfl dX9_hires_3 ?_
  refine vv_iconst (n := 1) X dX9_hires_6 ?_
  refine vv_iald (z := (M 106 1)) X (by decide) sh_106 (by decide) (by omega) (rfl) dX9_hires_7 ?_
  refine vv_imul X dX9_hires_8 ?_
  refine vv_iadd X dX9_hires_9 ?_
  refine vv_istore (lv' := [(5, .int (zI (3 + (4 * (M 106 1))))), (0, .ref (ad 105)), (1, .int (zI a)), (2, .int (zI b)), (3, .int (zI u)), (4, .int (zI v))]) X (by decide) rfl dX9_hires_10 ?_
  refine vv_aload_n X 1 rfl rfl dX9_hires_12 ?_
  refine vv_getr (Nf := 20) (ref := (TX9 0).1) X (by decide) sh_105 rfl 0 (by decide) u_X9_hires_9 k_X9_hires_7 rfl rfl dX9_hires_13 ?_
  refine vv_iload X 0 rfl dX9_hires_16 ?_
  refine vv_iconst (n := 0) X dX9_hires_18 ?_
  refine vv_iadd X dX9_hires_19 ?_
  refine vv_iload_n X 2 rfl rfl dX9_hires_20 ?_
  refine vv_iast (ix := (3 + 4 * n)) X (by decide) sh_106 (by decide) (by omega) (show (3 + 4 * M 106 1 + 0).toNat = 3 + 4 * n by omega) dX9_hires_21 ?_
  refine vv_aload_n X 1 rfl rfl dX9_hires_22 ?_
  refine vv_getr (Nf := 20) (ref := (TX9 0).1) X (by decide) sh_105 rfl 0 (by decide) u_X9_hires_9 k_X9_hires_7 rfl rfl dX9_hires_23 ?_
  refine vv_iload X 0 rfl dX9_hires_26 ?_
  refine vv_iconst (n := 1) X dX9_hires_28 ?_
  refine vv_iadd X dX9_hires_29 ?_
  refine vv_iload_n X 3 rfl rfl dX9_hires_30 ?_
  refine vv_iast (ix := (4 + 4 * n)) X (by decide) sh_106 (by decide) (by omega) (show (3 + 4 * M 106 1 + 1).toNat = 4 + 4 * n by omega) dX9_hires_31 ?_
  refine vv_aload_n X 1 rfl rfl dX9_hires_32 ?_
  refine vv_getr (Nf := 20) (ref := (TX9 0).1) X (by decide) sh_105 rfl 0 (by decide) u_X9_hires_9 k_X9_hires_7 rfl rfl dX9_hires_33 ?_
  refine vv_iload X 0 rfl dX9_hires_36 ?_
  refine vv_iconst (n := 2) X dX9_hires_38 ?_
  refine vv_iadd X dX9_hires_39 ?_
  refine vv_iload_n X 4 rfl rfl dX9_hires_40 ?_
  refine vv_iast (ix := (5 + 4 * n)) X (by decide) sh_106 (by decide) (by omega) (show (3 + 4 * M 106 1 + 2).toNat = 5 + 4 * n by omega) dX9_hires_41 ?_
  refine vv_aload_n X 1 rfl rfl dX9_hires_42 ?_
  refine vv_getr (Nf := 20) (ref := (TX9 0).1) X (by decide) sh_105 rfl 0 (by decide) u_X9_hires_9 k_X9_hires_7 rfl rfl dX9_hires_43 ?_
  refine vv_iload X 0 rfl dX9_hires_46 ?_
  refine vv_iconst (n := 3) X dX9_hires_48 ?_
  refine vv_iadd X dX9_hires_49 ?_
  refine vv_iload X 5 rfl dX9_hires_50 ?_
  refine vv_iast (ix := (6 + 4 * n)) X (by decide) sh_106 (by decide) (by omega) (show (3 + 4 * M 106 1 + 3).toNat = 6 + 4 * n by omega) dX9_hires_52 ?_
  refine vv_aload_n X 1 rfl rfl dX9_hires_53 ?_
  refine vv_getr (Nf := 20) (ref := (TX9 0).1) X (by decide) sh_105 rfl 0 (by decide) u_X9_hires_9 k_X9_hires_7 rfl rfl dX9_hires_54 ?_
  refine vv_iconst (n := 1) X dX9_hires_57 ?_
  refine vv_dup2 X rfl rfl dX9_hires_58 ?_
  refine vv_iald (z := (M 106 1)) X (by decide) sh_106 (by decide) (by omega) (by rw [up2_m _ _ _ (by omega), up2_m _ _ _ (by omega), up2_m _ _ _ (by omega), up2_m _ _ _ (by omega)]; rfl) dX9_hires_59 ?_
  refine vv_iconst (n := 1) X dX9_hires_60 ?_
  refine vv_iadd X dX9_hires_61 ?_
  refine vv_iast (ix := 1) X (by decide) sh_106 (by decide) (by omega) (rfl) dX9_hires_62 ?_
  refine vv_aload_n X 1 rfl rfl dX9_hires_63 ?_
  refine vv_getr (Nf := 20) (ref := (TX9 0).1) X (by decide) sh_105 rfl 0 (by decide) u_X9_hires_9 k_X9_hires_7 rfl rfl dX9_hires_64 ?_
  refine vv_iconst (n := 1) X dX9_hires_67 ?_
  refine vv_iald (z := ((M 106 1) + 1)) X (by decide) sh_106 (by decide) (by omega) (rfl) dX9_hires_68 ?_
  refine vv_iconst (n := 1) X dX9_hires_69 ?_
  refine vv_isub X dX9_hires_70 ?_
  exact vv_iret X hm (⟨by omega, eqx_up _ _ (eqx_up _ _ (eqx_up _ _ (eqx_up _ _ (eqx_up _ _ (eqx_rf _ _) (by decide)) (by decide)) (by decide)) (by decide)) (by decide), hir_of hnn (by omega) rfl⟩) dX9_hires_71
set_option maxRecDepth 100000 in
set_option maxHeartbeats 4000000 in
theorem c_X9_hire (l : Launch) (D : va_G) {ad : Nat → Nat} (cA : Nat → ClassId) (had : adok ad) (M : Mem) (a b u v : Int) (ha : -2147483648 ≤ a ∧ a ≤ 2147483647) (hb : -2147483648 ≤ b ∧ b ≤ 2147483647) (hu : -2147483648 ≤ u ∧ u ≤ 2147483647) (hv : -2147483648 ≤ v ∧ v ≤ 2147483647) (hw : RW M) : CtI l yX9_hire wsX9_hire 2 46 D ad cA [.ref (ad 105), .int (zI a), .int (zI b), .int (zI u), .int (zI v)] M (fun z M1 => rChg (opR a b u v) (M 105 6) M z M1) := by
  refine CtI.of (cc := cX9_hire) (maxL := 6) (ret := (some .int)) had (by decide) rfl (Nat.le_of_ble_eq_true rfl) ?_
  intro p e s m args below meth c X hm
  show VV p l e { frames := 2, cells := 0, slots := 0, locals := 46 } s m args below meth c 6 D ad cA (Afr ad s.heap.size) 0 0 (QI below args s D ad cA (fun z M1 => rChg (opR a b u v) (M 105 6) M z M1)) M 0 [(0, .ref (ad 105)), (1, .int (zI a)), (2, .int (zI b)), (3, .int (zI u)), (4, .int (zI v))] []
  have hw0 := hw
  obtain ⟨hwA, hHi, hwh⟩ := hw
  have hW : rWR M := hwA.2.1
  have hn5 : 0 ≤ M 106 1 ∧ M 106 1 ≤ 5 := by
    have q1 := hW.2.1
    have q2 := hW.1
    omega
  have hsm : 1 ≤ M 106 2 ∧ M 106 2 ≤ 6 := WFs_pos hwA.2.2
  have hwb : ∀ k : Nat, (k : Int) < M 106 2 → (1 ≤ M 106 (23 + k) ∧ M 106 (23 + k) ≤ 999) ∧ (0 ≤ M 106 (29 + k) ∧ M 106 (29 + k) ≤ 100) := fun k hk => WFs_b hwA.2.2 hk
  have hp9 : 1 ≤ M 106 0 ∧ M 106 0 ≤ 99 := hwA.1
  refine vv_aload_n X 0 rfl rfl dX9_hire_0 ?_
  refine vv_iload_n X 1 rfl rfl dX9_hire_1 ?_
  refine vv_iload_n X 2 rfl rfl dX9_hire_2 ?_
  refine vv_iload_n X 3 rfl rfl dX9_hire_3 ?_
  refine vv_iload X 4 rfl dX9_hire_4 ?_
  refine vv_callVI (As := [.int (zI a), .int (zI b), .int (zI u), .int (zI v)]) (st := []) (Nf := 20) X 4 (c_X9_whyNotHired l D cA had M a b u v (by omega) (by omega) (by omega) (by omega) (hn5)) gX9_hire_X9_whyNotHired rfl (by decide +kernel) ⟨by decide, by decide⟩ (Nat.le_of_ble_eq_true rfl) ⟨by decide, by decide⟩ rfl (by decide) sh_105 rfl rfl dX9_hire_6 (fun z6 Mc6 q_6 => ?_)
  obtain ⟨e_z6, g_z6⟩ := q_6
  have g_z6 := g_z6.symm
  subst g_z6
  refine vv_istore (lv' := [(5, .int (zI z6)), (0, .ref (ad 105)), (1, .int (zI a)), (2, .int (zI b)), (3, .int (zI u)), (4, .int (zI v))]) X (by decide) rfl dX9_hire_9 ?_
  refine vv_iload X 0 rfl dX9_hire_11 ?_
  refine vv_if_ge (tgt := 19) X (by rw [e_z6]; (repeat' split) <;> omega) dX9_hire_13 (by decide) (fun c_13 => ?_) (fun c_13 => ?_)
  · skip
    have hin : ADM a b u v := Classical.byContradiction fun q => by rw [if_neg q] at e_z6; omega
    have hlt : M 106 1 < 5 := by
      rw [if_pos hin] at e_z6
      rcases (show M 106 1 = 5 ∨ M 106 1 < 5 by omega) with q | q
      · rw [if_pos q] at e_z6; omega
      · exact q
    refine vv_aload_n X 1 rfl rfl dX9_hire_19 ?_
    refine vv_callVV (As := []) (st := []) (Nf := 20) X 0 (c_X9_record l D cA had M (hw0)) gX9_hire_X9_record rfl (by decide +kernel) ⟨by decide, by decide⟩ (Nat.le_of_ble_eq_true rfl) ⟨by decide, by decide⟩ rfl (by decide) sh_105 rfl rfl dX9_hire_20 (fun Mr qr => ?_)
    obtain ⟨⟨rP, rH⟩, rE, rk⟩ := qr
    have r106 : Mr 106 = M 106 := rE 106 (by decide)
    have rA : aR Mr = aR M := aR_eq r106
    refine vv_aload_n X 1 rfl rfl dX9_hire_23 ?_
    refine vv_iload_n X 2 rfl rfl dX9_hire_24 ?_
    refine vv_iload_n X 3 rfl rfl dX9_hire_25 ?_
    refine vv_iload_n X 4 rfl rfl dX9_hire_26 ?_
    refine vv_iload X 5 rfl dX9_hire_27 ?_
    refine vv_callVI (As := [.int (zI a), .int (zI b), .int (zI u), .int (zI v)]) (st := []) (Nf := 20) X 4 (c_X9_hires l D cA had Mr a b u v (by rw [r106]; omega)) gX9_hire_X9_hires rfl (by decide +kernel) ⟨by decide, by decide⟩ (Nat.le_of_ble_eq_true rfl) ⟨by decide, by decide⟩ rfl (by decide) sh_105 rfl rfl dX9_hire_29 (fun z29 Ma qa => ?_)
    exact vv_iret X hm (by
      obtain ⟨h1, h2, h3⟩ := qa
      rw [rA] at h3
      rw [r106] at h1
      refine rChg_yes rP rH rE (eqx_mono h2 (by decide)) (by rw [h2 105 (by decide)]) (by rw [h2 105 (by decide), rk 6 (by decide)]) (by omega) ⟨fun q => absurd hin q, fun _ => ⟨fun q => absurd (show M 106 1 = 5 from q) (by omega), fun _ => ⟨h1, h3⟩⟩⟩) dX9_hire_32
  · skip
    refine vv_iload X 0 rfl dX9_hire_16 ?_
    exact vv_iret X hm (by
      by_cases hin : ADM a b u v
      · rw [if_pos hin] at e_z6
        have h5 : M 106 1 = 5 := Classical.byContradiction fun q => by rw [if_neg q] at e_z6; omega
        rw [if_pos h5] at e_z6
        rw [e_z6]
        exact rChg_no hHi (by decide) ⟨fun q => absurd hin q, fun _ => ⟨fun _ => ⟨rfl, eqA_rf _⟩, fun q => absurd (show M 106 1 < 5 from q) (by omega)⟩⟩ (eqx_rf _ _) rfl rfl
      · rw [if_neg hin] at e_z6
        rw [e_z6]
        exact rChg_no hHi (by decide) ⟨fun _ => ⟨rfl, eqA_rf _⟩, fun q => absurd q hin⟩ (eqx_rf _ _) rfl rfl) dX9_hire_18
theorem u_X9_dismisses_9 : ∀ w ∈ u_ws RX9 TX9 20, w ∈ wsX9_dismisses := by decide +kernel
theorem k_X9_dismisses_7 : Cond.fieldLink yX9_dismisses.cls 7 (TX9 0).1 (TX9 0).2.1 (TX9 0).2.2.1 ∈ wsX9_dismisses := by decide +kernel
set_option maxRecDepth 100000 in
set_option maxHeartbeats 4000000 in
theorem c_X9_dismisses (l : Launch) (D : va_G) {ad : Nat → Nat} (cA : Nat → ClassId) (had : adok ad) (M : Mem) (r : Int) (hr : 0 ≤ r ∧ r < M 106 1) (hn5 : M 106 1 ≤ 5) : CtI l yX9_dismisses wsX9_dismisses 0 0 D ad cA [.ref (ad 105), .int (zI r)] M (fun z M1 => z = M 106 1 - 1 ∧ eqx M M1 [106] ∧ eqA (disA (aR M) r) (aR M1)) := by
  refine CtI.of (cc := cX9_dismisses) (maxL := 3) (ret := (some .int)) had (by decide) rfl (Nat.le_of_ble_eq_true rfl) ?_
  intro p e s m args below meth c X hm
  show VV p l e { frames := 0, cells := 0, slots := 0, locals := 0 } s m args below meth c 3 D ad cA (Afr ad s.heap.size) 0 0 (QI below args s D ad cA (fun z M1 => z = M 106 1 - 1 ∧ eqx M M1 [106] ∧ eqA (disA (aR M) r) (aR M1))) M 0 [(0, .ref (ad 105)), (1, .int (zI r))] []
  refine vv_iconst (n := 3) X dX9_dismisses_0 ?_
  refine vv_iconst (n := 4) X dX9_dismisses_1 ?_
  refine vv_iload_n X 1 rfl rfl dX9_dismisses_2 ?_
  refine vv_imul X dX9_dismisses_3 ?_
  refine vv_iadd X dX9_dismisses_4 ?_
  refine vv_istore_n (lv' := [(2, .int (zI (3 + (4 * r)))), (0, .ref (ad 105)), (1, .int (zI r))]) X rfl (by decide) rfl dX9_dismisses_5 ?_
  have loop_6 : ∀ (n : Nat) (M_6 : Mem) (a2 : Int), 3 + 4 * r ≤ a2 ∧ a2 ≤ 3 + 4 * (M 106 1 - 1) → eqx M M_6 [106] → (∀ j : Nat, M_6 106 j = if 3 + 4 * r ≤ (j : Int) ∧ (j : Int) < a2 then M 106 (j + 4) else M 106 j) → (3 + 4 * (M 106 1 - 1) - a2).toNat < n → VV p l e { frames := 0, cells := 0, slots := 0, locals := 0 } s m args below meth c 3 D ad cA (Afr ad s.heap.size) 0 0 (QI below args s D ad cA (fun z M1 => z = M 106 1 - 1 ∧ eqx M M1 [106] ∧ eqA (disA (aR M) r) (aR M1))) M_6 6 [(0, .ref (ad 105)), (1, .int (zI r)), (2, .int (zI a2))] [] := by
    intro n
    induction n with
    | zero => intro M_6 a2 h2 hE hj hn; exact absurd hn (Nat.not_lt_zero _)
    | succ n ih_6 =>
      intro M_6 a2 h2 hE hj hn
      have hj1 : M_6 106 1 = M 106 1 := by rw [hj, if_neg (by omega)]
      have h6 : (a2 + 4).toNat = a2.toNat + 4 := by omega
      refine vv_iload_n X 2 rfl rfl dX9_dismisses_6 ?_
      refine vv_iconst (n := 3) X dX9_dismisses_7 ?_
      refine vv_iconst (n := 4) X dX9_dismisses_8 ?_
      refine vv_aload_n X 0 rfl rfl dX9_dismisses_9 ?_
      refine vv_getr (Nf := 20) (ref := (TX9 0).1) X (by decide) sh_105 rfl 0 (by decide) u_X9_dismisses_9 k_X9_dismisses_7 rfl rfl dX9_dismisses_10 ?_
      refine vv_iconst (n := 1) X dX9_dismisses_13 ?_
      refine vv_iald (z := (M 106 1)) X (by decide) sh_106 (by decide) (by omega) (hj1) dX9_dismisses_14 ?_
      refine vv_iconst (n := 1) X dX9_dismisses_15 ?_
      refine vv_isub X dX9_dismisses_16 ?_
      refine vv_imul X dX9_dismisses_17 ?_
      refine vv_iadd X dX9_dismisses_18 ?_
      refine vv_icmp_ge (tgt := 42) X (by omega) (by omega) dX9_dismisses_19 (by decide) (fun c_19 => ?_) (fun c_19 => ?_)
      · skip
        refine vv_aload_n X 0 rfl rfl dX9_dismisses_42 ?_
        refine vv_getr (Nf := 20) (ref := (TX9 0).1) X (by decide) sh_105 rfl 0 (by decide) u_X9_dismisses_9 k_X9_dismisses_7 rfl rfl dX9_dismisses_43 ?_
        refine vv_iconst (n := 1) X dX9_dismisses_46 ?_
        refine vv_dup2 X rfl rfl dX9_dismisses_47 ?_
        refine vv_iald (z := (M 106 1)) X (by decide) sh_106 (by decide) (by omega) (hj1) dX9_dismisses_48 ?_
        refine vv_iconst (n := 1) X dX9_dismisses_49 ?_
        refine vv_isub X dX9_dismisses_50 ?_
        refine vv_iast (ix := 1) X (by decide) sh_106 (by decide) (by omega) (rfl) dX9_dismisses_51 ?_
        refine vv_aload_n X 0 rfl rfl dX9_dismisses_52 ?_
        refine vv_getr (Nf := 20) (ref := (TX9 0).1) X (by decide) sh_105 rfl 0 (by decide) u_X9_dismisses_9 k_X9_dismisses_7 rfl rfl dX9_dismisses_53 ?_
        refine vv_iconst (n := 1) X dX9_dismisses_56 ?_
        refine vv_iald (z := ((M 106 1) - 1)) X (by decide) sh_106 (by decide) (by omega) (rfl) dX9_dismisses_57 ?_
        exact vv_iret X hm (⟨rfl, eqx_up _ _ hE (by decide), dis_of hr hn5 (fun j => by
          show uz (M_6 106) 1 _ j = _
          unfold uz
          by_cases q : j = 1
          · rw [if_pos q, if_pos q]
          · rw [if_neg q, if_neg q, hj j]
            have e : a2 = 3 + 4 * (M 106 1 - 1) := by omega
            rw [e])⟩) dX9_dismisses_58
      · skip
        refine vv_aload_n X 0 rfl rfl dX9_dismisses_22 ?_
        refine vv_getr (Nf := 20) (ref := (TX9 0).1) X (by decide) sh_105 rfl 0 (by decide) u_X9_dismisses_9 k_X9_dismisses_7 rfl rfl dX9_dismisses_23 ?_
        refine vv_iload_n X 2 rfl rfl dX9_dismisses_26 ?_
        refine vv_aload_n X 0 rfl rfl dX9_dismisses_27 ?_
        refine vv_getr (Nf := 20) (ref := (TX9 0).1) X (by decide) sh_105 rfl 0 (by decide) u_X9_dismisses_9 k_X9_dismisses_7 rfl rfl dX9_dismisses_28 ?_
        refine vv_iload_n X 2 rfl rfl dX9_dismisses_31 ?_
        refine vv_iconst (n := 4) X dX9_dismisses_32 ?_
        refine vv_iadd X dX9_dismisses_33 ?_
        refine vv_iald (z := (M_6 106 (a2.toNat + 4))) X (by decide) sh_106 (by decide) (by omega) (by first | (rw [h6]; done) | (rw [h6]; exact (rfl))) dX9_dismisses_34 ?_
        refine vv_iast (ix := (Int.toNat a2)) X (by decide) sh_106 (by decide) (by omega) (rfl) dX9_dismisses_35 ?_
        refine vv_iinc (lv' := [(2, .int (zI (a2 + 1))), (0, .ref (ad 105)), (1, .int (zI r))]) X 2 rfl (by decide) rfl dX9_dismisses_36 ?_
        refine vv_goto (tgt := 6) X (by decide) dX9_dismisses_39 ?_
        refine vv_sub (lv' := [(0, .ref (ad 105)), (1, .int (zI r)), (2, .int (zI (a2 + 1)))]) [1, 2, 0] rfl ?_
        exact ih_6 (up2 M_6 106 (Int.toNat a2) (M_6 106 (a2.toNat + 4))) (a2 + 1) (by omega) (eqx_up _ _ hE (by decide)) (fun j => by
          show uz (M_6 106) a2.toNat _ j = _
          unfold uz
          have hjj := hj j
          by_cases q : j = a2.toNat
          · rw [if_pos q, if_pos (by omega), hj, if_neg (by omega), q]
          · rw [if_neg q, hjj]
            by_cases q2 : 3 + 4 * r ≤ (j : Int) ∧ (j : Int) < a2
            · rw [if_pos q2, if_pos (by omega)]
            · rw [if_neg q2, if_neg (by omega)]) (by omega)
  refine vv_sub (lv' := [(0, .ref (ad 105)), (1, .int (zI r)), (2, .int (zI (3 + (4 * r))))]) [1, 2, 0] rfl ?_
  exact loop_6 _ M (3 + (4 * r)) (by omega) (eqx_rf _ _) (fun j => by rw [if_neg (by omega)]) (Nat.lt_succ_self _)
set_option maxRecDepth 100000 in
set_option maxHeartbeats 4000000 in
theorem c_X9_dismiss (l : Launch) (D : va_G) {ad : Nat → Nat} (cA : Nat → ClassId) (had : adok ad) (M : Mem) (x : Int) (hx : -2147483648 ≤ x ∧ x ≤ 2147483647) (hw : RW M) : CtI l yX9_dismiss wsX9_dismiss 2 45 D ad cA [.ref (ad 105), .int (zI x)] M (fun z M1 => rChg (opD x) (M 105 6) M z M1) := by
  refine CtI.of (cc := cX9_dismiss) (maxL := 2) (ret := (some .int)) had (by decide) rfl (Nat.le_of_ble_eq_true rfl) ?_
  intro p e s m args below meth c X hm
  show VV p l e { frames := 2, cells := 0, slots := 0, locals := 45 } s m args below meth c 2 D ad cA (Afr ad s.heap.size) 0 0 (QI below args s D ad cA (fun z M1 => rChg (opD x) (M 105 6) M z M1)) M 0 [(0, .ref (ad 105)), (1, .int (zI x))] []
  have hw0 := hw
  obtain ⟨hwA, hHi, hwh⟩ := hw
  have hW : rWR M := hwA.2.1
  have hn5 : 0 ≤ M 106 1 ∧ M 106 1 ≤ 5 := by
    have q1 := hW.2.1
    have q2 := hW.1
    omega
  have hsm : 1 ≤ M 106 2 ∧ M 106 2 ≤ 6 := WFs_pos hwA.2.2
  have hwb : ∀ k : Nat, (k : Int) < M 106 2 → (1 ≤ M 106 (23 + k) ∧ M 106 (23 + k) ≤ 999) ∧ (0 ≤ M 106 (29 + k) ∧ M 106 (29 + k) ≤ 100) := fun k hk => WFs_b hwA.2.2 hk
  have hp9 : 1 ≤ M 106 0 ∧ M 106 0 ≤ 99 := hwA.1
  refine vv_aload_n X 0 rfl rfl dX9_dismiss_0 ?_
  refine vv_iload_n X 1 rfl rfl dX9_dismiss_1 ?_
  refine vv_callVI (As := [.int (zI x)]) (st := []) (Nf := 20) X 1 (c_X9_isReceiver l D cA had M x (by omega) (by omega)) gX9_dismiss_X9_isReceiver rfl (by decide +kernel) ⟨by decide, by decide⟩ (Nat.le_of_ble_eq_true rfl) ⟨by decide, by decide⟩ rfl (by decide) sh_105 rfl rfl dX9_dismiss_2 (fun z2 Mc2 q_2 => ?_)
  obtain ⟨e_z2, g_z2⟩ := q_2
  have g_z2 := g_z2.symm
  subst g_z2
  refine vv_if_ne (tgt := 10) X (by rw [e_z2]; split <;> omega) dX9_dismiss_5 (by decide) (fun c_5 => ?_) (fun c_5 => ?_)
  · skip
    have hin : 0 ≤ x ∧ x < M 106 1 := Classical.byContradiction fun q => by rw [if_neg q] at e_z2; omega
    refine vv_aload_n X 0 rfl rfl dX9_dismiss_10 ?_
    refine vv_callVV (As := []) (st := []) (Nf := 20) X 0 (c_X9_record l D cA had M (hw0)) gX9_dismiss_X9_record rfl (by decide +kernel) ⟨by decide, by decide⟩ (Nat.le_of_ble_eq_true rfl) ⟨by decide, by decide⟩ rfl (by decide) sh_105 rfl rfl dX9_dismiss_11 (fun Mr qr => ?_)
    obtain ⟨⟨rP, rH⟩, rE, rk⟩ := qr
    have r106 : Mr 106 = M 106 := rE 106 (by decide)
    have rA : aR Mr = aR M := aR_eq r106
    refine vv_aload_n X 0 rfl rfl dX9_dismiss_14 ?_
    refine vv_iload_n X 1 rfl rfl dX9_dismiss_15 ?_
    refine vv_callVI (As := [.int (zI x)]) (st := []) (Nf := 20) X 1 (c_X9_dismisses l D cA had Mr x (by rw [r106]; exact hin) (by rw [r106]; exact hn5.2)) gX9_dismiss_X9_dismisses rfl (by decide +kernel) ⟨by decide, by decide⟩ (Nat.le_of_ble_eq_true rfl) ⟨by decide, by decide⟩ rfl (by decide) sh_105 rfl rfl dX9_dismiss_16 (fun z16 Ma qa => ?_)
    exact vv_iret X hm (by
      obtain ⟨h1, h2, h3⟩ := qa
      rw [rA] at h3
      rw [r106] at h1
      exact rChg_yes rP rH rE (eqx_mono h2 (by decide)) (by rw [h2 105 (by decide)]) (by rw [h2 105 (by decide), rk 6 (by decide)]) (by omega) ⟨fun q => absurd hin q, fun _ => ⟨h1, h3⟩⟩) dX9_dismiss_19
  · skip
    have hin : ¬ (0 ≤ x ∧ x < M 106 1) := fun q => by rw [if_pos q] at e_z2; omega
    refine vv_iconst (n := (-1)) X dX9_dismiss_8 ?_
    exact vv_iret X hm (rChg_no hHi (by decide) ⟨fun _ => ⟨rfl, eqA_rf _⟩, fun q => absurd q hin⟩ (eqx_rf _ _) rfl rfl) dX9_dismiss_9
theorem u_X9_adopts_9 : ∀ w ∈ u_ws RX9 TX9 20, w ∈ wsX9_adopts := by decide +kernel
theorem k_X9_adopts_7 : Cond.fieldLink yX9_adopts.cls 7 (TX9 0).1 (TX9 0).2.1 (TX9 0).2.2.1 ∈ wsX9_adopts := by decide +kernel
theorem k_X9_adopts_72 : Cond.fieldLink yX9_adopts.cls 72 (TX9 9).1 (TX9 9).2.1 (TX9 9).2.2.1 ∈ wsX9_adopts := by decide +kernel
theorem k_X9_adopts_91 : Cond.fieldLink yX9_adopts.cls 91 (TX9 12).1 (TX9 12).2.1 (TX9 12).2.2.1 ∈ wsX9_adopts := by decide +kernel
theorem k_X9_adopts_94 : Cond.fieldLink yX9_adopts.cls 94 (TX9 13).1 (TX9 13).2.1 (TX9 13).2.2.1 ∈ wsX9_adopts := by decide +kernel
set_option maxRecDepth 100000 in
set_option maxHeartbeats 4000000 in
theorem c_X9_adopts (l : Launch) (D : va_G) {ad : Nat → Nat} (cA : Nat → ClassId) (had : adok ad) (M : Mem) (hwA : WF (aR M)) : CtI l yX9_adopts wsX9_adopts 5 118 D ad cA [.ref (ad 105)] M (fun z M1 => opB (aR M) z (aR M1) ∧ eqx M M1 [105, 106, 111, 112] ∧ (∀ k : Nat, k < 9 → M1 105 k = M 105 k) ∧ (∀ k : Nat, 14 ≤ k → M1 105 k = M 105 k) ∧ 0 ≤ z) := by
  refine CtI.of (cc := cX9_adopts) (maxL := 2) (ret := (some .int)) had (by decide) rfl (Nat.le_of_ble_eq_true rfl) ?_
  intro p e s m args below meth c X hm
  show VV p l e { frames := 5, cells := 0, slots := 0, locals := 118 } s m args below meth c 2 D ad cA (Afr ad s.heap.size) 0 0 (QI below args s D ad cA (fun z M1 => opB (aR M) z (aR M1) ∧ eqx M M1 [105, 106, 111, 112] ∧ (∀ k : Nat, k < 9 → M1 105 k = M 105 k) ∧ (∀ k : Nat, 14 ≤ k → M1 105 k = M 105 k) ∧ 0 ≤ z)) M 0 [(0, .ref (ad 105))] []
  have hW : rWR M := hwA.2.1
  have hn5 : 0 ≤ M 106 1 ∧ M 106 1 ≤ 5 := by
    have q1 := hW.2.1
    have q2 := hW.1
    omega
  have hp9 : 1 ≤ M 106 0 ∧ M 106 0 ≤ 99 := hwA.1
  refine vv_aload_n X 0 rfl rfl dX9_adopts_0 ?_
  refine vv_getr (Nf := 20) (ref := (TX9 0).1) X (by decide) sh_105 rfl 0 (by decide) u_X9_adopts_9 k_X9_adopts_7 rfl rfl dX9_adopts_1 ?_
  refine vv_iconst (n := 0) X dX9_adopts_4 ?_
  refine vv_iald (z := (M 106 0)) X (by decide) sh_106 (by decide) (by omega) (rfl) dX9_adopts_5 ?_
  refine vv_istore_n (lv' := [(1, .int (zI (M 106 0))), (0, .ref (ad 105))]) X rfl (by decide) rfl dX9_adopts_6 ?_
  refine vv_aload_n X 1 rfl rfl dX9_adopts_7 ?_
  refine vv_iload_n X 0 rfl rfl dX9_adopts_8 ?_
  refine vv_callVV (As := [.int (zI (M 106 0))]) (st := []) (Nf := 20) X 1 (c_X9_takeEnvelope l D cA had M (M 106 0) (by omega) (by assumption)) gX9_adopts_X9_takeEnvelope rfl (by decide +kernel) ⟨by decide, by decide⟩ (Nat.le_of_ble_eq_true rfl) ⟨by decide, by decide⟩ rfl (by decide) sh_105 rfl rfl dX9_adopts_9 (fun Me qe => ?_)
  obtain ⟨lo, hi, hB, qe⟩ := qe
  have hok := hB.1
  have hr := okS_rng hok (show 0 ≤ M 106 0 ∧ M 106 0 ≤ 100 by omega)
  have hb1 := wLo_b hok (show 0 ≤ M 106 0 ∧ M 106 0 ≤ 100 by omega)
  have hb2 := wHi_b hok (show 0 ≤ M 106 0 ∧ M 106 0 ≤ 100 by omega)
  have ee12 : Me 105 12 = lo := by rw [qe]; rfl
  have ee13 : Me 105 13 = hi := by rw [qe]; rfl
  have ee106 : Me 106 = M 106 := by rw [qe]; rfl
  have hok2 : okS (M 106 0) ((up2 Me 105 9 0) 105 12) ((up2 Me 105 9 0) 105 13) := by
    rw [up2_m _ _ _ (by decide), up2_m _ _ _ (by decide), ee12, ee13]
    exact hok
  refine vv_aload_n X 1 rfl rfl dX9_adopts_12 ?_
  refine vv_iconst (n := 0) X dX9_adopts_13 ?_
  refine vv_puti (Nf := 20) (ref := (TX9 9).1) X (by decide) sh_105 rfl 9 (by decide) u_X9_adopts_9 k_X9_adopts_72 rfl tyX9_ok nmX9 rfl (by decide +kernel) rfl rfl dX9_adopts_14 ?_
  refine vv_aload_n X 1 rfl rfl dX9_adopts_17 ?_
  refine vv_aload_n X 1 rfl rfl dX9_adopts_18 ?_
  refine vv_iload_n X 0 rfl rfl dX9_adopts_19 ?_
  refine vv_iconst (n := 1) X dX9_adopts_20 ?_
  refine vv_callVI (As := [.int (zI (M 106 0)), .int (zI 1)]) (st := [.ref (ad 105)]) (Nf := 20) X 2 (c_X9_weightOf l D cA had (up2 Me 105 9 0) (M 106 0) 1 (by omega) (Or.inr rfl) (hok2)) gX9_adopts_X9_weightOf rfl (by decide +kernel) ⟨by decide, by decide⟩ (Nat.le_of_ble_eq_true rfl) ⟨by decide, by decide⟩ rfl (by decide) sh_105 rfl rfl dX9_adopts_21 (fun z21 Mc21 q_21 => ?_)
  obtain ⟨e_z21, g_z21⟩ := q_21
  have g_z21 := g_z21.symm
  subst g_z21
  rw [if_pos rfl, up2_m _ _ _ (by decide), up2_m _ _ _ (by decide), ee12, ee13] at e_z21
  rw [e_z21]
  refine vv_aload_n X 1 rfl rfl dX9_adopts_24 ?_
  refine vv_geti (Nf := 20) (ref := (TX9 12).1) (z := (Me 105 12)) X (by decide) sh_105 rfl 12 (by decide) u_X9_adopts_9 k_X9_adopts_91 rfl rfl (rfl) dX9_adopts_25 ?_
  refine vv_callVV (As := [.int (zI (wLo (M 106 0) lo hi)), .int (zI (Me 105 12))]) (st := []) (Nf := 20) X 2 (c_X9_takes l D cA had (up2 Me 105 9 0) (wLo (M 106 0) lo hi) (Me 105 12) (fun _ => 0) (hb1.1) (by omega) (by omega) (Or.inr (by omega)) (fun _ => Int.le_refl _) (by rw [up2_s]; exact SplitOf_0) (by rw [up2_s]; decide)) gX9_adopts_X9_takes rfl (by decide +kernel) ⟨by decide, by decide⟩ (Nat.le_of_ble_eq_true rfl) ⟨by decide, by decide⟩ rfl (by decide) sh_105 rfl rfl dX9_adopts_28 (fun Ma qa => ?_)
  obtain ⟨qaE, qak, qaS, qam⟩ := qa
  rw [ee12] at qaS
  rw [up2_s] at qam
  have ea12 : Ma 105 12 = lo := by rw [qak 12 (by decide), up2_m _ _ _ (by decide)]; exact ee12
  have ea13 : Ma 105 13 = hi := by rw [qak 13 (by decide), up2_m _ _ _ (by decide)]; exact ee13
  refine vv_aload_n X 1 rfl rfl dX9_adopts_31 ?_
  refine vv_aload_n X 1 rfl rfl dX9_adopts_32 ?_
  refine vv_iload_n X 0 rfl rfl dX9_adopts_33 ?_
  refine vv_iconst (n := 0) X dX9_adopts_34 ?_
  refine vv_callVI (As := [.int (zI (M 106 0)), .int (zI 0)]) (st := [.ref (ad 105)]) (Nf := 20) X 2 (c_X9_weightOf l D cA had Ma (M 106 0) 0 (by omega) (Or.inl rfl) (by rw [ea12, ea13]; exact hok)) gX9_adopts_X9_weightOf rfl (by decide +kernel) ⟨by decide, by decide⟩ (Nat.le_of_ble_eq_true rfl) ⟨by decide, by decide⟩ rfl (by decide) sh_105 rfl rfl dX9_adopts_35 (fun z35 Mc35 q_35 => ?_)
  obtain ⟨e_z35, g_z35⟩ := q_35
  have g_z35 := g_z35.symm
  subst g_z35
  rw [if_neg (by decide), ea12, ea13] at e_z35
  rw [e_z35]
  refine vv_aload_n X 1 rfl rfl dX9_adopts_38 ?_
  refine vv_geti (Nf := 20) (ref := (TX9 13).1) (z := (Ma 105 13)) X (by decide) sh_105 rfl 13 (by decide) u_X9_adopts_9 k_X9_adopts_94 rfl rfl (rfl) dX9_adopts_39 ?_
  refine vv_callVV (As := [.int (zI (wHi (M 106 0) lo hi)), .int (zI (Ma 105 13))]) (st := []) (Nf := 20) X 2 (c_X9_takes l D cA had Ma (wHi (M 106 0) lo hi) (Ma 105 13) (fadd (fun _ => 0) lo (wLo (M 106 0) lo hi)) (hb2.1) (by omega) (by rw [ea13]; omega) (Or.inr (by rw [ea13]; omega)) (fadd_nn (fun _ => Int.le_refl _) hb1.1) (qaS) (by omega)) gX9_adopts_X9_takes rfl (by decide +kernel) ⟨by decide, by decide⟩ (Nat.le_of_ble_eq_true rfl) ⟨by decide, by decide⟩ rfl (by decide) sh_105 rfl rfl dX9_adopts_42 (fun Mb qb => ?_)
  obtain ⟨qbE, qbk, qbS, qbm⟩ := qb
  rw [ea13] at qbS
  have qb9 : Mb 105 9 = cnt (bstF (M 106 0) lo hi) 101 := qbS.1
  have qb0 := (cnt_b (bstF (M 106 0) lo hi) 101).1
  refine vv_aload_n X 1 rfl rfl dX9_adopts_45 ?_
  refine vv_callVV (As := []) (st := []) (Nf := 20) X 0 (c_X9_gives l D cA had Mb (by omega)) gX9_adopts_X9_gives rfl (by decide +kernel) ⟨by decide, by decide⟩ (Nat.le_of_ble_eq_true rfl) ⟨by decide, by decide⟩ rfl (by decide) sh_105 rfl rfl dX9_adopts_46 (fun Mg qg => ?_)
  refine vv_aload_n X 1 rfl rfl dX9_adopts_49 ?_
  refine vv_geti (Nf := 20) (ref := (TX9 9).1) (z := (Mg 105 9)) X (by decide) sh_105 rfl 9 (by decide) u_X9_adopts_9 k_X9_adopts_72 rfl rfl (rfl) dX9_adopts_50 ?_
  exact vv_iret X hm (by
    obtain ⟨gE, gj⟩ := qg
    have hE1 : eqx M Me [105] := by rw [qe]; exact eqx_up _ _ (eqx_up _ _ (eqx_up _ _ (eqx_up _ _ (eqx_rf _ _) (by decide)) (by decide)) (by decide)) (by decide)
    have hE2 : eqx M Mb [105, 106, 111, 112] := eqx_tr (eqx_tr (eqx_mono hE1 (by decide)) (eqx_up 9 0 (eqx_rf Me _) (by decide))) (eqx_tr (eqx_mono qaE (by decide)) (eqx_mono qbE (by decide)))
    have e106 : Mb 106 = M 106 := by rw [qbE 106 (by decide), qaE 106 (by decide), up2_n _ _ _ (by decide), ee106]
    have eA : aR Mb = aR M := aR_eq e106
    have h := gives_A gj (by rw [e106]; exact hn5.2) (by omega)
    rw [eA] at h
    have hred := bst_red hok (show 0 ≤ M 106 0 ∧ M 106 0 ≤ 100 by omega)
    have e9 : Mg 105 9 = Mb 105 9 := by rw [gE 105 (by decide)]
    have hS : SplitOf (red (bstF (M 106 0) lo hi)) (Mb 105 9) (Mb 111) (Mb 112) := SplitOf_cong qbS (fun j _ => (hred.1 j).symm)
    have hm : ∀ k : Nat, k ≠ 9 → Mg 105 k = Me 105 k := fun k hk => by rw [gE 105 (by decide), qbk k hk, qak k hk, up2_m _ _ _ hk]
    refine ⟨⟨lo, hi, hB, fun q => absurd hred.2 q, fun _ => ⟨Mb 105 9, Mb 111, Mb 112, hS, e9, h⟩⟩, eqx_tr hE2 (eqx_mono gE (by decide)), fun k hk => ?_, fun k hk => ?_, by omega⟩
    · rw [hm k (by omega), qe, up2_m _ _ _ (by omega), up2_m _ _ _ (by omega), up2_m _ _ _ (by omega), up2_m _ _ _ (by omega)]
    · rw [hm k (by omega), qe, up2_m _ _ _ (by omega), up2_m _ _ _ (by omega), up2_m _ _ _ (by omega), up2_m _ _ _ (by omega)]) dX9_adopts_53
set_option maxRecDepth 100000 in
set_option maxHeartbeats 4000000 in
theorem c_X9_adopt (l : Launch) (D : va_G) {ad : Nat → Nat} (cA : Nat → ClassId) (had : adok ad) (M : Mem)  (hw : RW M) : CtI l yX9_adopt wsX9_adopt 6 139 D ad cA [.ref (ad 105)] M (fun z M1 => rChg (opB) (M 105 6) M z M1) := by
  refine CtI.of (cc := cX9_adopt) (maxL := 1) (ret := (some .int)) had (by decide) rfl (Nat.le_of_ble_eq_true rfl) ?_
  intro p e s m args below meth c X hm
  show VV p l e { frames := 6, cells := 0, slots := 0, locals := 139 } s m args below meth c 1 D ad cA (Afr ad s.heap.size) 0 0 (QI below args s D ad cA (fun z M1 => rChg (opB) (M 105 6) M z M1)) M 0 [(0, .ref (ad 105))] []
  have hw0 := hw
  obtain ⟨hwA, hHi, hwh⟩ := hw
  have hW : rWR M := hwA.2.1
  have hn5 : 0 ≤ M 106 1 ∧ M 106 1 ≤ 5 := by
    have q1 := hW.2.1
    have q2 := hW.1
    omega
  have hsm : 1 ≤ M 106 2 ∧ M 106 2 ≤ 6 := WFs_pos hwA.2.2
  have hwb : ∀ k : Nat, (k : Int) < M 106 2 → (1 ≤ M 106 (23 + k) ∧ M 106 (23 + k) ≤ 999) ∧ (0 ≤ M 106 (29 + k) ∧ M 106 (29 + k) ≤ 100) := fun k hk => WFs_b hwA.2.2 hk
  have hp9 : 1 ≤ M 106 0 ∧ M 106 0 ≤ 99 := hwA.1
  refine vv_aload_n X 0 rfl rfl dX9_adopt_0 ?_
  refine vv_callVV (As := []) (st := []) (Nf := 20) X 0 (c_X9_record l D cA had M (hw0)) gX9_adopt_X9_record rfl (by decide +kernel) ⟨by decide, by decide⟩ (Nat.le_of_ble_eq_true rfl) ⟨by decide, by decide⟩ rfl (by decide) sh_105 rfl rfl dX9_adopt_1 (fun Mr qr => ?_)
  obtain ⟨⟨rP, rH⟩, rE, rk⟩ := qr
  have r106 : Mr 106 = M 106 := rE 106 (by decide)
  have rA : aR Mr = aR M := aR_eq r106
  have hwr : WF (aR Mr) := by rw [rA]; exact hwA
  refine vv_aload_n X 0 rfl rfl dX9_adopt_4 ?_
  refine vv_callVI (As := []) (st := []) (Nf := 20) X 0 (c_X9_adopts l D cA had Mr (hwr)) gX9_adopt_X9_adopts rfl (by decide +kernel) ⟨by decide, by decide⟩ (Nat.le_of_ble_eq_true rfl) ⟨by decide, by decide⟩ rfl (by decide) sh_105 rfl rfl dX9_adopt_5 (fun z5 Ma qa => ?_)
  exact vv_iret X hm (by
    obtain ⟨h1, h2, h3, h4, h5⟩ := qa
    rw [rA] at h1
    exact rChg_yes rP rH rE h2 (h3 2 (by decide)) (by rw [h3 6 (by decide), rk 6 (by decide)]) h5 h1) dX9_adopt_8
