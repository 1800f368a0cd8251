theorem u_X4_sign_4 : ∀ w ∈ u_ws RX4 TX4 6, w ∈ wsX4_sign := by decide +kernel
theorem k_X4_sign_11 : Cond.fieldLink yX4_sign.cls 11 (TX4 0).1 (TX4 0).2.1 (TX4 0).2.2.1 ∈ wsX4_sign := by decide +kernel
theorem k_X4_sign_21 : Cond.fieldLink yX4_sign.cls 21 (TX4 2).1 (TX4 2).2.1 (TX4 2).2.2.1 ∈ wsX4_sign := by decide +kernel
theorem k_X4_sign_25 : Cond.fieldLink yX4_sign.cls 25 (TX4 3).1 (TX4 3).2.1 (TX4 3).2.2.1 ∈ wsX4_sign := by decide +kernel
set_option maxRecDepth 100000 in
set_option maxHeartbeats 4000000 in
theorem c_X4_sign (l : Launch) (D : va_G) {ad : Nat → Nat} (cA : Nat → ClassId) (had : adok ad) (M : Mem) (i : Nat) (hi : M 95 3 = (i : Int)) (hi9 : i ≤ 81) (hP : PW M) : CtI l yX4_sign wsX4_sign 0 0 D ad cA [.ref (ad 95)] M (fun z M1 => z = cC M i ∧ M1 = M) := by
  refine CtI.of (cc := cX4_sign) (maxL := 1) (ret := (some .int)) had (by decide) rfl (Nat.le_of_ble_eq_true rfl) ?_
  intro p e s m args below meth c X hm
  show VV p l e { frames := 0, cells := 0, slots := 0, locals := 0 } s m args below meth c 1 D ad cA (Afr ad s.heap.size) 0 0 (QI below args s D ad cA (fun z M1 => z = cC M i ∧ M1 = M)) M 0 [(0, .ref (ad 95))] []
  have hl := hP.1
  refine vv_aload_n X 0 rfl rfl dX4_sign_0 ?_
  refine vv_geti (Nf := 6) (ref := (TX4 3).1) (z := (M 95 3)) X (by decide) sh_95 rfl 3 (by decide) u_X4_sign_4 k_X4_sign_25 rfl rfl (rfl) dX4_sign_1 ?_
  refine vv_if_lt (tgt := 30) X (by omega) dX4_sign_4 (by decide) (fun c_4 => ?_) (fun c_4 => ?_)
  · skip
    omega
  · skip
    refine vv_aload_n X 0 rfl rfl dX4_sign_7 ?_
    refine vv_geti (Nf := 6) (ref := (TX4 3).1) (z := (M 95 3)) X (by decide) sh_95 rfl 3 (by decide) u_X4_sign_4 k_X4_sign_25 rfl rfl (rfl) dX4_sign_8 ?_
    refine vv_aload_n X 0 rfl rfl dX4_sign_11 ?_
    refine vv_geti (Nf := 6) (ref := (TX4 2).1) (z := (M 95 2)) X (by decide) sh_95 rfl 2 (by decide) u_X4_sign_4 k_X4_sign_21 rfl rfl (rfl) dX4_sign_12 ?_
    refine vv_icmp_ge (tgt := 30) X (by omega) (by omega) dX4_sign_15 (by decide) (fun c_15 => ?_) (fun c_15 => ?_)
    · skip
      refine vv_iconst (n := 0) X dX4_sign_30 ?_
      exact vv_iret X hm (⟨by unfold cC; first | rw [if_neg (by omega)] | rw [if_pos (by omega)], rfl⟩) dX4_sign_31
    · skip
      refine vv_aload_n X 0 rfl rfl dX4_sign_18 ?_
      refine vv_getr (Nf := 6) (ref := (TX4 0).1) X (by decide) sh_95 rfl 0 (by decide) u_X4_sign_4 k_X4_sign_11 rfl rfl dX4_sign_19 ?_
      refine vv_aload_n X 0 rfl rfl dX4_sign_22 ?_
      refine vv_geti (Nf := 6) (ref := (TX4 3).1) (z := (M 95 3)) X (by decide) sh_95 rfl 3 (by decide) u_X4_sign_4 k_X4_sign_25 rfl rfl (rfl) dX4_sign_23 ?_
      refine vv_cald (z := (M 96 i)) X (by decide) sh_96 (by decide) (by omega) (by first | (rw [show (M 95 3).toNat = i by omega]; done) | (rw [show (M 95 3).toNat = i by omega]; exact (rfl))) dX4_sign_26 ?_
      refine vv_goto (tgt := 31) X (by decide) dX4_sign_27 ?_
      exact vv_iret X hm (⟨by unfold cC; first | rw [if_neg (by omega)] | rw [if_pos (by omega)], rfl⟩) dX4_sign_31
theorem u_X4_skip_4 : ∀ w ∈ u_ws RX4 TX4 6, w ∈ wsX4_skip := by decide +kernel
theorem k_X4_skip_25 : Cond.fieldLink yX4_skip.cls 25 (TX4 3).1 (TX4 3).2.1 (TX4 3).2.2.1 ∈ wsX4_skip := by decide +kernel
set_option maxRecDepth 100000 in
set_option maxHeartbeats 4000000 in
theorem c_X4_skip (l : Launch) (D : va_G) {ad : Nat → Nat} (cA : Nat → ClassId) (had : adok ad) (M : Mem) (w : Int) (hw : 1 ≤ w ∧ w ≤ 126) (i t : Nat) (hi : M 95 3 = (i : Int)) (h5 : M 95 5 = (t : Int)) (hil : (i : Int) ≤ M 95 2) (hP : PW M) : CtI l yX4_skip wsX4_skip 1 20 D ad cA [.ref (ad 95), .int (zI w)] M (fun z M1 => z = (if cC M i = w then 1 else 0) ∧ PS M M1 (if cC M i = w then i + 1 else i) t (M 97)) := by
  refine CtI.of (cc := cX4_skip) (maxL := 2) (ret := (some .boolean)) had (by decide) rfl (Nat.le_of_ble_eq_true rfl) ?_
  intro p e s m args below meth c X hm
  show VV p l e { frames := 1, cells := 0, slots := 0, locals := 20 } s m args below meth c 2 D ad cA (Afr ad s.heap.size) 0 0 (QI below args s D ad cA (fun z M1 => z = (if cC M i = w then 1 else 0) ∧ PS M M1 (if cC M i = w then i + 1 else i) t (M 97))) M 0 [(0, .ref (ad 95)), (1, .int (zI w))] []
  have hl := hP.1
  have hCb := cC_b hP
  have hCn := cC_n hP
  have hc0 := hCb i
  refine vv_aload_n X 0 rfl rfl dX4_skip_0 ?_
  refine vv_callVI (As := []) (st := []) (Nf := 6) X 0 (c_X4_sign l D cA had M i (hi) (by omega) (by assumption)) gX4_skip_X4_sign rfl (by decide +kernel) ⟨by decide, by decide⟩ (Nat.le_of_ble_eq_true rfl) ⟨by decide, by decide⟩ rfl (by decide) sh_95 rfl rfl dX4_skip_1 (fun z1 Mc1 q_1 => ?_)
  obtain ⟨e_z1, g_z1⟩ := q_1
  have g_z1 := g_z1.symm
  subst g_z1
  refine vv_iload_n X 1 rfl rfl dX4_skip_4 ?_
  refine vv_icmp_eq (tgt := 10) X (by omega) (by omega) dX4_skip_5 (by decide) (fun c_5 => ?_) (fun c_5 => ?_)
  · skip
    refine vv_aload_n X 0 rfl rfl dX4_skip_10 ?_
    refine vv_dup X rfl dX4_skip_11 ?_
    refine vv_geti (Nf := 6) (ref := (TX4 3).1) (z := (M 95 3)) X (by decide) sh_95 rfl 3 (by decide) u_X4_skip_4 k_X4_skip_25 rfl rfl (rfl) dX4_skip_12 ?_
    refine vv_iconst (n := 1) X dX4_skip_15 ?_
    refine vv_iadd X dX4_skip_16 ?_
    refine vv_puti (Nf := 6) (ref := (TX4 3).1) X (by decide) sh_95 rfl 3 (by decide) u_X4_skip_4 k_X4_skip_25 rfl tyX4_ok nmX4 rfl (by decide +kernel) rfl rfl dX4_skip_17 ?_
    refine vv_iconst (n := 1) X dX4_skip_20 ?_
    exact vv_zret X hm (by omega) (by
      have he : cC M i = w := by omega
      rw [if_pos he, if_pos he]
      exact ⟨rfl, PS_at h5 (by rw [hi]; rfl)⟩) dX4_skip_21
  · skip
    refine vv_iconst (n := 0) X dX4_skip_8 ?_
    exact vv_zret X hm (by omega) (by
      have hne : ¬ cC M i = w := by omega
      rw [if_neg hne, if_neg hne]
      exact ⟨rfl, PS_rf hi h5⟩) dX4_skip_9
theorem u_X4_tell_4 : ∀ w ∈ u_ws RX4 TX4 6, w ∈ wsX4_tell := by decide +kernel
theorem k_X4_tell_17 : Cond.fieldLink yX4_tell.cls 17 (TX4 1).1 (TX4 1).2.1 (TX4 1).2.2.1 ∈ wsX4_tell := by decide +kernel
theorem k_X4_tell_31 : Cond.fieldLink yX4_tell.cls 31 (TX4 5).1 (TX4 5).2.1 (TX4 5).2.2.1 ∈ wsX4_tell := by decide +kernel
set_option maxRecDepth 100000 in
set_option maxHeartbeats 4000000 in
theorem c_X4_tell (l : Launch) (D : va_G) {ad : Nat → Nat} (cA : Nat → ClassId) (had : adok ad) (M : Mem) (v : Int) (t : Nat) (h5 : M 95 5 = (t : Int)) (ht : t < 12) : CtV l yX4_tell wsX4_tell 0 0 D ad cA [.ref (ad 95), .int (zI v)] M (fun M1 => M1 = up2 (up2 M 97 t v) 95 5 ((t : Int) + 1)) := by
  refine CtV.of (cc := cX4_tell) (maxL := 2) (ret := none) had (by decide) rfl (Nat.le_of_ble_eq_true rfl) ?_
  intro p e s m args below meth c X hm
  show VV p l e { frames := 0, cells := 0, slots := 0, locals := 0 } s m args below meth c 2 D ad cA (Afr ad s.heap.size) 0 0 (QV below args s D ad cA (fun M1 => M1 = up2 (up2 M 97 t v) 95 5 ((t : Int) + 1))) M 0 [(0, .ref (ad 95)), (1, .int (zI v))] []
  refine vv_aload_n X 0 rfl rfl dX4_tell_0 ?_
  refine vv_geti (Nf := 6) (ref := (TX4 5).1) (z := (M 95 5)) X (by decide) sh_95 rfl 5 (by decide) u_X4_tell_4 k_X4_tell_31 rfl rfl (rfl) dX4_tell_1 ?_
  refine vv_aload_n X 0 rfl rfl dX4_tell_4 ?_
  refine vv_getr (Nf := 6) (ref := (TX4 1).1) X (by decide) sh_95 rfl 1 (by decide) u_X4_tell_4 k_X4_tell_17 rfl rfl dX4_tell_5 ?_
  refine vv_alen X (by decide) sh_97 rfl (by decide) dX4_tell_8 ?_
  refine vv_icmp_ge (tgt := 32) X (by omega) (by omega) dX4_tell_9 (by decide) (fun c_9 => ?_) (fun c_9 => ?_)
  · skip
    omega
  · skip
    refine vv_aload_n X 0 rfl rfl dX4_tell_12 ?_
    refine vv_getr (Nf := 6) (ref := (TX4 1).1) X (by decide) sh_95 rfl 1 (by decide) u_X4_tell_4 k_X4_tell_17 rfl rfl dX4_tell_13 ?_
    refine vv_aload_n X 0 rfl rfl dX4_tell_16 ?_
    refine vv_geti (Nf := 6) (ref := (TX4 5).1) (z := (M 95 5)) X (by decide) sh_95 rfl 5 (by decide) u_X4_tell_4 k_X4_tell_31 rfl rfl (rfl) dX4_tell_17 ?_
    refine vv_iload_n X 1 rfl rfl dX4_tell_20 ?_
    refine vv_iast (ix := t) X (by decide) sh_97 (by decide) (by omega) (show (M 95 5).toNat = t by omega) dX4_tell_21 ?_
    refine vv_aload_n X 0 rfl rfl dX4_tell_22 ?_
    refine vv_dup X rfl dX4_tell_23 ?_
    refine vv_geti (Nf := 6) (ref := (TX4 5).1) (z := (M 95 5)) X (by decide) sh_95 rfl 5 (by decide) u_X4_tell_4 k_X4_tell_31 rfl rfl (rfl) dX4_tell_24 ?_
    refine vv_iconst (n := 1) X dX4_tell_27 ?_
    refine vv_iadd X dX4_tell_28 ?_
    refine vv_puti (Nf := 6) (ref := (TX4 5).1) X (by decide) sh_95 rfl 5 (by decide) u_X4_tell_4 k_X4_tell_31 rfl tyX4_ok nmX4 rfl (by decide +kernel) rfl rfl dX4_tell_29 ?_
    exact vv_vret X hm (by rw [h5]) dX4_tell_32
set_option maxRecDepth 100000 in
set_option maxHeartbeats 4000000 in
theorem c_X4_isDigit (l : Launch) (D : va_G) {ad : Nat → Nat} (cA : Nat → ClassId) (had : adok ad) (M : Mem) (r : Int) (hr : -2147483648 ≤ r ∧ r ≤ 2147483647) : CtI l yX4_isDigit wsX4_isDigit 0 0 D ad cA [.int (zI r)] M (fun z M1 => z = (if 48 ≤ r ∧ r ≤ 57 then 1 else 0) ∧ M1 = M) := by
  refine CtI.of (cc := cX4_isDigit) (maxL := 1) (ret := (some .boolean)) had (by decide) rfl (Nat.le_of_ble_eq_true rfl) ?_
  intro p e s m args below meth c X hm
  show VV p l e { frames := 0, cells := 0, slots := 0, locals := 0 } s m args below meth c 1 D ad cA (Afr ad s.heap.size) 0 0 (QI below args s D ad cA (fun z M1 => z = (if 48 ≤ r ∧ r ≤ 57 then 1 else 0) ∧ M1 = M)) M 0 [(0, .int (zI r))] []
  refine vv_iload_n X 0 rfl rfl dX4_isDigit_0 ?_
  refine vv_bipush (n := 48) X (by decide) dX4_isDigit_1 ?_
  refine vv_icmp_lt (tgt := 16) X (by omega) (by omega) dX4_isDigit_3 (by decide) (fun c_3 => ?_) (fun c_3 => ?_)
  · skip
    refine vv_iconst (n := 0) X dX4_isDigit_16 ?_
    exact vv_zret X hm (by omega) (⟨by first | rw [if_pos (by omega)] | rw [if_neg (by omega)], rfl⟩) dX4_isDigit_17
  · skip
    refine vv_iload_n X 0 rfl rfl dX4_isDigit_6 ?_
    refine vv_bipush (n := 57) X (by decide) dX4_isDigit_7 ?_
    refine vv_icmp_gt (tgt := 16) X (by omega) (by omega) dX4_isDigit_9 (by decide) (fun c_9 => ?_) (fun c_9 => ?_)
    · skip
      refine vv_iconst (n := 0) X dX4_isDigit_16 ?_
      exact vv_zret X hm (by omega) (⟨by first | rw [if_pos (by omega)] | rw [if_neg (by omega)], rfl⟩) dX4_isDigit_17
    · skip
      refine vv_iconst (n := 1) X dX4_isDigit_12 ?_
      refine vv_goto (tgt := 17) X (by decide) dX4_isDigit_13 ?_
      exact vv_zret X hm (by omega) (⟨by first | rw [if_pos (by omega)] | rw [if_neg (by omega)], rfl⟩) dX4_isDigit_17
theorem u_X4_readNumber_4 : ∀ w ∈ u_ws RX4 TX4 6, w ∈ wsX4_readNumber := by decide +kernel
theorem k_X4_readNumber_21 : Cond.fieldLink yX4_readNumber.cls 21 (TX4 2).1 (TX4 2).2.1 (TX4 2).2.2.1 ∈ wsX4_readNumber := by decide +kernel
theorem k_X4_readNumber_25 : Cond.fieldLink yX4_readNumber.cls 25 (TX4 3).1 (TX4 3).2.1 (TX4 3).2.2.1 ∈ wsX4_readNumber := by decide +kernel
set_option maxRecDepth 100000 in
set_option maxHeartbeats 4000000 in
theorem c_X4_readNumber (l : Launch) (D : va_G) {ad : Nat → Nat} (cA : Nat → ClassId) (had : adok ad) (M : Mem) (i t : Nat) (hi : M 95 3 = (i : Int)) (h5 : M 95 5 = (t : Int)) (hil : (i : Int) ≤ M 95 2) (hP : PW M) (ht : t < 12) : CtI l yX4_readNumber wsX4_readNumber 1 21 D ad cA [.ref (ad 95)] M (fun z M1 => z = (if (num (cC M) i).1 < 0 then 0 else 1) ∧ PS M M1 (num (cC M) i).2 (if (num (cC M) i).1 < 0 then t else t + 1) (if (num (cC M) i).1 < 0 then M 97 else uz (M 97) t (num (cC M) i).1)) := by
  refine CtI.of (cc := cX4_readNumber) (maxL := 2) (ret := (some .boolean)) had (by decide) rfl (Nat.le_of_ble_eq_true rfl) ?_
  intro p e s m args below meth c X hm
  show VV p l e { frames := 1, cells := 0, slots := 0, locals := 21 } s m args below meth c 2 D ad cA (Afr ad s.heap.size) 0 0 (QI below args s D ad cA (fun z M1 => z = (if (num (cC M) i).1 < 0 then 0 else 1) ∧ PS M M1 (num (cC M) i).2 (if (num (cC M) i).1 < 0 then t else t + 1) (if (num (cC M) i).1 < 0 then M 97 else uz (M 97) t (num (cC M) i).1))) M 0 [(0, .ref (ad 95))] []
  have hl := hP.1
  have hCb := cC_b hP
  have hCn := cC_n hP
  have hc0 := hCb i
  refine vv_aload_n X 0 rfl rfl dX4_readNumber_0 ?_
  refine vv_callVI (As := []) (st := []) (Nf := 6) X 0 (c_X4_sign l D cA had M i (hi) (by omega) (by assumption)) gX4_readNumber_X4_sign rfl (by decide +kernel) ⟨by decide, by decide⟩ (Nat.le_of_ble_eq_true rfl) ⟨by decide, by decide⟩ rfl (by decide) sh_95 rfl rfl dX4_readNumber_1 (fun z1 Mc1 q_1 => ?_)
  obtain ⟨e_z1, g_z1⟩ := q_1
  have g_z1 := g_z1.symm
  subst g_z1
  refine vv_callSI (As := [.int (zI z1)]) (st := []) X 1 (c_X4_isDigit l D cA had M z1 (by omega)) gX4_readNumber_X4_isDigit rfl (by decide +kernel) ⟨by decide, by decide⟩ (Nat.le_of_ble_eq_true rfl) ⟨by decide, by decide⟩ rfl rfl dX4_readNumber_4 (fun z4 Mc4 q_4 => ?_)
  obtain ⟨e_z4, g_z4⟩ := q_4
  have g_z4 := g_z4.symm
  subst g_z4
  refine vv_if_ne (tgt := 12) X (by rw [e_z4]; split <;> omega) dX4_readNumber_7 (by decide) (fun c_7 => ?_) (fun c_7 => ?_)
  · skip
    have hdi : dg (cC M) i := Classical.byContradiction fun q => by rw [e_z1, if_neg q] at e_z4; omega
    have hin : (i : Int) < M 95 2 := by
      have := C_lt hCn (i := i) (by omega)
      omega
    refine vv_aload_n X 0 rfl rfl dX4_readNumber_12 ?_
    refine vv_callVI (As := []) (st := []) (Nf := 6) X 0 (c_X4_sign l D cA had M i (hi) (by omega) (by assumption)) gX4_readNumber_X4_sign rfl (by decide +kernel) ⟨by decide, by decide⟩ (Nat.le_of_ble_eq_true rfl) ⟨by decide, by decide⟩ rfl (by decide) sh_95 rfl rfl dX4_readNumber_13 (fun z13 Mc13 q_13 => ?_)
    obtain ⟨e_z13, g_z13⟩ := q_13
    have g_z13 := g_z13.symm
    subst g_z13
    refine vv_bipush (n := 48) X (by decide) dX4_readNumber_16 ?_
    refine vv_isub X dX4_readNumber_18 ?_
    refine vv_istore_n (lv' := [(1, .int (zI (z13 - 48))), (0, .ref (ad 95))]) X rfl (by decide) rfl dX4_readNumber_19 ?_
    refine vv_aload_n X 1 rfl rfl dX4_readNumber_20 ?_
    refine vv_dup X rfl dX4_readNumber_21 ?_
    refine vv_geti (Nf := 6) (ref := (TX4 3).1) (z := (M 95 3)) X (by decide) sh_95 rfl 3 (by decide) u_X4_readNumber_4 k_X4_readNumber_25 rfl rfl (rfl) dX4_readNumber_22 ?_
    refine vv_iconst (n := 1) X dX4_readNumber_25 ?_
    refine vv_iadd X dX4_readNumber_26 ?_
    refine vv_puti (Nf := 6) (ref := (TX4 3).1) X (by decide) sh_95 rfl 3 (by decide) u_X4_readNumber_4 k_X4_readNumber_25 rfl tyX4_ok nmX4 rfl (by decide +kernel) rfl rfl dX4_readNumber_27 ?_
    have loop_30 : ∀ (n : Nat) (M_30 : Mem) (j : Nat) (v : Int), M_30 = up2 M 95 3 (j : Int) → i < j ∧ (j : Int) ≤ M 95 2 → 0 ≤ v ∧ v ≤ 999 → nst (cC M) v j = num (cC M) i → (M 95 2 - j).toNat < n → VV p l e { frames := 1, cells := 0, slots := 0, locals := 21 } s m args below meth c 2 D ad cA (Afr ad s.heap.size) 0 0 (QI below args s D ad cA (fun z M1 => z = (if (num (cC M) i).1 < 0 then 0 else 1) ∧ PS M M1 (num (cC M) i).2 (if (num (cC M) i).1 < 0 then t else t + 1) (if (num (cC M) i).1 < 0 then M 97 else uz (M 97) t (num (cC M) i).1))) M_30 30 [(0, .ref (ad 95)), (1, .int (zI v))] [] := by
      intro n
      induction n with
      | zero => intro M_30 j v hM hj hv hN hn; exact absurd hn (Nat.not_lt_zero _)
      | succ n ih_30 =>
        intro M_30 j v hM hj hv hN hn
        have e2 : M_30 95 2 = M 95 2 := by rw [hM, up2_m _ _ _ (by decide)]
        have e3 : M_30 95 3 = (j : Int) := by rw [hM, up2_s]
        have e5 : M_30 95 5 = (t : Int) := by rw [hM, up2_m _ _ _ (by decide)]; exact h5
        have hEj : PE M M_30 := by rw [hM]; exact PE_up (by decide) (PE_rf M)
        have eC := PE_c hEj
        have hPj := PE_W hEj hP
        have hcj := hCb j
        refine vv_aload_n X 0 rfl rfl dX4_readNumber_30 ?_
        refine vv_geti (Nf := 6) (ref := (TX4 3).1) (z := (M_30 95 3)) X (by decide) sh_95 rfl 3 (by decide) u_X4_readNumber_4 k_X4_readNumber_25 rfl rfl (rfl) dX4_readNumber_31 ?_
        refine vv_aload_n X 0 rfl rfl dX4_readNumber_34 ?_
        refine vv_geti (Nf := 6) (ref := (TX4 2).1) (z := (M_30 95 2)) X (by decide) sh_95 rfl 2 (by decide) u_X4_readNumber_4 k_X4_readNumber_21 rfl rfl (rfl) dX4_readNumber_35 ?_
        refine vv_icmp_ge (tgt := 99) X (by omega) (by omega) dX4_readNumber_38 (by decide) (fun c_38 => ?_) (fun c_38 => ?_)
        · skip
          refine vv_aload_n X 0 rfl rfl dX4_readNumber_99 ?_
          refine vv_iload_n X 1 rfl rfl dX4_readNumber_100 ?_
          refine vv_callVV (As := [.int (zI v)]) (st := []) (Nf := 6) X 1 (c_X4_tell l D cA had M_30 v t (e5) (by omega)) gX4_readNumber_X4_tell rfl (by decide +kernel) ⟨by decide, by decide⟩ (Nat.le_of_ble_eq_true rfl) ⟨by decide, by decide⟩ rfl (by decide) sh_95 rfl rfl dX4_readNumber_101 (fun Mc101 q_101 => ?_)
          refine vv_iconst (n := 1) X dX4_readNumber_104 ?_
          exact vv_zret X hm (by omega) (by
            have hz := hCn j (by omega)
            have hst : ¬ ((0 < v ∧ v < 100) ∧ dg (cC M) j) := fun q => by have := q.2; omega
            rw [nst_end hst] at hN
            rw [← hN]
            have hv0 : ¬ v < 0 := by omega
            dsimp only
            rw [if_neg hv0, if_neg hv0, if_neg hv0]
            exact ⟨rfl, PS_3 (by rw [q_101, hM])⟩) dX4_readNumber_105
        · skip
          refine vv_iload_n X 1 rfl rfl dX4_readNumber_41 ?_
          refine vv_if_le (tgt := 99) X (by omega) dX4_readNumber_42 (by decide) (fun c_42 => ?_) (fun c_42 => ?_)
          · skip
            refine vv_aload_n X 0 rfl rfl dX4_readNumber_99 ?_
            refine vv_iload_n X 1 rfl rfl dX4_readNumber_100 ?_
            refine vv_callVV (As := [.int (zI v)]) (st := []) (Nf := 6) X 1 (c_X4_tell l D cA had M_30 v t (e5) (by omega)) gX4_readNumber_X4_tell rfl (by decide +kernel) ⟨by decide, by decide⟩ (Nat.le_of_ble_eq_true rfl) ⟨by decide, by decide⟩ rfl (by decide) sh_95 rfl rfl dX4_readNumber_101 (fun Mc101 q_101 => ?_)
            refine vv_iconst (n := 1) X dX4_readNumber_104 ?_
            exact vv_zret X hm (by omega) (by
              have hst : ¬ ((0 < v ∧ v < 100) ∧ dg (cC M) j) := fun q => by have := q.1; omega
              rw [nst_end hst] at hN
              rw [← hN]
              have hv0 : ¬ v < 0 := by omega
              dsimp only
              rw [if_neg hv0, if_neg hv0, if_neg hv0]
              exact ⟨rfl, PS_3 (by rw [q_101, hM])⟩) dX4_readNumber_105
          · skip
            refine vv_aload_n X 0 rfl rfl dX4_readNumber_45 ?_
            refine vv_callVI (As := []) (st := []) (Nf := 6) X 0 (c_X4_sign l D cA had M_30 j (e3) (by omega) (hPj)) gX4_readNumber_X4_sign rfl (by decide +kernel) ⟨by decide, by decide⟩ (Nat.le_of_ble_eq_true rfl) ⟨by decide, by decide⟩ rfl (by decide) sh_95 rfl rfl dX4_readNumber_46 (fun z46 Mc46 q_46 => ?_)
            obtain ⟨e_z46, g_z46⟩ := q_46
            have g_z46 := g_z46.symm
            subst g_z46
            rw [eC] at e_z46
            refine vv_callSI (As := [.int (zI z46)]) (st := []) X 1 (c_X4_isDigit l D cA had M_30 z46 (by omega)) gX4_readNumber_X4_isDigit rfl (by decide +kernel) ⟨by decide, by decide⟩ (Nat.le_of_ble_eq_true rfl) ⟨by decide, by decide⟩ rfl rfl dX4_readNumber_49 (fun z49 Mc49 q_49 => ?_)
            obtain ⟨e_z49, g_z49⟩ := q_49
            have g_z49 := g_z49.symm
            subst g_z49
            refine vv_if_eq (tgt := 99) X (by rw [e_z49]; split <;> omega) dX4_readNumber_52 (by decide) (fun c_52 => ?_) (fun c_52 => ?_)
            · skip
              have hdj : ¬ dg (cC M) j := fun q => by rw [e_z46, if_pos q] at e_z49; omega
              refine vv_aload_n X 0 rfl rfl dX4_readNumber_99 ?_
              refine vv_iload_n X 1 rfl rfl dX4_readNumber_100 ?_
              refine vv_callVV (As := [.int (zI v)]) (st := []) (Nf := 6) X 1 (c_X4_tell l D cA had M_30 v t (e5) (by omega)) gX4_readNumber_X4_tell rfl (by decide +kernel) ⟨by decide, by decide⟩ (Nat.le_of_ble_eq_true rfl) ⟨by decide, by decide⟩ rfl (by decide) sh_95 rfl rfl dX4_readNumber_101 (fun Mc101 q_101 => ?_)
              refine vv_iconst (n := 1) X dX4_readNumber_104 ?_
              exact vv_zret X hm (by omega) (by
                have hst : ¬ ((0 < v ∧ v < 100) ∧ dg (cC M) j) := fun q => hdj q.2
                rw [nst_end hst] at hN
                rw [← hN]
                have hv0 : ¬ v < 0 := by omega
                dsimp only
                rw [if_neg hv0, if_neg hv0, if_neg hv0]
                exact ⟨rfl, PS_3 (by rw [q_101, hM])⟩) dX4_readNumber_105
            · skip
              have hdj : dg (cC M) j := Classical.byContradiction fun q => by rw [e_z46, if_neg q] at e_z49; omega
              refine vv_bipush (n := 10) X (by decide) dX4_readNumber_55 ?_
              refine vv_iload_n X 1 rfl rfl dX4_readNumber_57 ?_
              refine vv_imul X dX4_readNumber_58 ?_
              refine vv_aload_n X 0 rfl rfl dX4_readNumber_59 ?_
              refine vv_callVI (As := []) (st := [.int (zI (10 * v))]) (Nf := 6) X 0 (c_X4_sign l D cA had M_30 j (e3) (by omega) (hPj)) gX4_readNumber_X4_sign rfl (by decide +kernel) ⟨by decide, by decide⟩ (Nat.le_of_ble_eq_true rfl) ⟨by decide, by decide⟩ rfl (by decide) sh_95 rfl rfl dX4_readNumber_60 (fun z60 Mc60 q_60 => ?_)
              obtain ⟨e_z60, g_z60⟩ := q_60
              have g_z60 := g_z60.symm
              subst g_z60
              rw [eC] at e_z60
              refine vv_iadd X dX4_readNumber_63 ?_
              refine vv_bipush (n := 48) X (by decide) dX4_readNumber_64 ?_
              refine vv_isub X dX4_readNumber_66 ?_
              refine vv_sipush (n := 999) X (by decide) dX4_readNumber_67 ?_
              refine vv_icmp_gt (tgt := 99) X (by omega) (by omega) dX4_readNumber_70 (by decide) (fun c_70 => ?_) (fun c_70 => ?_)
              · skip
                refine vv_aload_n X 0 rfl rfl dX4_readNumber_99 ?_
                refine vv_iload_n X 1 rfl rfl dX4_readNumber_100 ?_
                refine vv_callVV (As := [.int (zI v)]) (st := []) (Nf := 6) X 1 (c_X4_tell l D cA had M_30 v t (e5) (by omega)) gX4_readNumber_X4_tell rfl (by decide +kernel) ⟨by decide, by decide⟩ (Nat.le_of_ble_eq_true rfl) ⟨by decide, by decide⟩ rfl (by decide) sh_95 rfl rfl dX4_readNumber_101 (fun Mc101 q_101 => ?_)
                refine vv_iconst (n := 1) X dX4_readNumber_104 ?_
                exact vv_zret X hm (by omega) (by
                  have hst : ¬ ((0 < v ∧ v < 100) ∧ dg (cC M) j) := fun q => by have := q.1; have := q.2; omega
                  rw [nst_end hst] at hN
                  rw [← hN]
                  have hv0 : ¬ v < 0 := by omega
                  dsimp only
                  rw [if_neg hv0, if_neg hv0, if_neg hv0]
                  exact ⟨rfl, PS_3 (by rw [q_101, hM])⟩) dX4_readNumber_105
              · skip
                refine vv_bipush (n := 10) X (by decide) dX4_readNumber_73 ?_
                refine vv_iload_n X 1 rfl rfl dX4_readNumber_75 ?_
                refine vv_imul X dX4_readNumber_76 ?_
                refine vv_aload_n X 0 rfl rfl dX4_readNumber_77 ?_
                refine vv_callVI (As := []) (st := [.int (zI (10 * v))]) (Nf := 6) X 0 (c_X4_sign l D cA had M_30 j (e3) (by omega) (hPj)) gX4_readNumber_X4_sign rfl (by decide +kernel) ⟨by decide, by decide⟩ (Nat.le_of_ble_eq_true rfl) ⟨by decide, by decide⟩ rfl (by decide) sh_95 rfl rfl dX4_readNumber_78 (fun z78 Mc78 q_78 => ?_)
                obtain ⟨e_z78, g_z78⟩ := q_78
                have g_z78 := g_z78.symm
                subst g_z78
                rw [eC] at e_z78
                refine vv_iadd X dX4_readNumber_81 ?_
                refine vv_bipush (n := 48) X (by decide) dX4_readNumber_82 ?_
                refine vv_isub X dX4_readNumber_84 ?_
                refine vv_istore_n (lv' := [(1, .int (zI (((10 * v) + z78) - 48))), (0, .ref (ad 95))]) X rfl (by decide) rfl dX4_readNumber_85 ?_
                refine vv_aload_n X 1 rfl rfl dX4_readNumber_86 ?_
                refine vv_dup X rfl dX4_readNumber_87 ?_
                refine vv_geti (Nf := 6) (ref := (TX4 3).1) (z := (M_30 95 3)) X (by decide) sh_95 rfl 3 (by decide) u_X4_readNumber_4 k_X4_readNumber_25 rfl rfl (rfl) dX4_readNumber_88 ?_
                refine vv_iconst (n := 1) X dX4_readNumber_91 ?_
                refine vv_iadd X dX4_readNumber_92 ?_
                refine vv_puti (Nf := 6) (ref := (TX4 3).1) X (by decide) sh_95 rfl 3 (by decide) u_X4_readNumber_4 k_X4_readNumber_25 rfl tyX4_ok nmX4 rfl (by decide +kernel) rfl rfl dX4_readNumber_93 ?_
                refine vv_goto (tgt := 30) X (by decide) dX4_readNumber_96 ?_
                refine vv_sub (lv' := [(0, .ref (ad 95)), (1, .int (zI (((10 * v) + z78) - 48)))]) [1, 0] rfl ?_
                exact ih_30 (up2 M_30 95 3 ((M_30 95 3) + 1)) (j + 1) (((10 * v) + z78) - 48) (by rw [e3, hM, up2_up2]; rfl) (by omega) (by omega) (by
                  rw [e_z78, ← hN, nst_go ⟨⟨by omega, by omega⟩, hdj⟩]
                  rw [show 10 * v + cC M j - 48 = 10 * v + (cC M j - 48) by omega]) (by omega)
    refine vv_sub (lv' := [(0, .ref (ad 95)), (1, .int (zI (z13 - 48)))]) [1, 0] rfl ?_
    exact loop_30 _ (up2 M 95 3 ((M 95 3) + 1)) (i + 1) (z13 - 48) (by rw [hi]; rfl) (by omega) (by omega) (by rw [e_z13]; exact (num_yes hdi).symm) (Nat.lt_succ_self _)
  · skip
    have hnd : ¬ dg (cC M) i := fun q => by rw [e_z1, if_pos q] at e_z4; omega
    refine vv_iconst (n := 0) X dX4_readNumber_10 ?_
    exact vv_zret X hm (by omega) (by
      rw [num_no hnd]
      exact ⟨rfl, PS_rf hi h5⟩) dX4_readNumber_11
theorem u_X4_readDigit_4 : ∀ w ∈ u_ws RX4 TX4 6, w ∈ wsX4_readDigit := by decide +kernel
theorem k_X4_readDigit_25 : Cond.fieldLink yX4_readDigit.cls 25 (TX4 3).1 (TX4 3).2.1 (TX4 3).2.2.1 ∈ wsX4_readDigit := by decide +kernel
set_option maxRecDepth 100000 in
set_option maxHeartbeats 4000000 in
theorem c_X4_readDigit (l : Launch) (D : va_G) {ad : Nat → Nat} (cA : Nat → ClassId) (had : adok ad) (M : Mem) (i t : Nat) (hi : M 95 3 = (i : Int)) (h5 : M 95 5 = (t : Int)) (hil : (i : Int) ≤ M 95 2) (hP : PW M) (ht : t < 12) : CtI l yX4_readDigit wsX4_readDigit 1 21 D ad cA [.ref (ad 95)] M (fun z M1 => z = (if 48 ≤ cC M i ∧ cC M i ≤ 52 then 1 else 0) ∧ PS M M1 (if 48 ≤ cC M i ∧ cC M i ≤ 52 then i + 1 else i) (if 48 ≤ cC M i ∧ cC M i ≤ 52 then t + 1 else t) (if 48 ≤ cC M i ∧ cC M i ≤ 52 then uz (M 97) t (cC M i - 48) else M 97)) := by
  refine CtI.of (cc := cX4_readDigit) (maxL := 2) (ret := (some .boolean)) had (by decide) rfl (Nat.le_of_ble_eq_true rfl) ?_
  intro p e s m args below meth c X hm
  show VV p l e { frames := 1, cells := 0, slots := 0, locals := 21 } s m args below meth c 2 D ad cA (Afr ad s.heap.size) 0 0 (QI below args s D ad cA (fun z M1 => z = (if 48 ≤ cC M i ∧ cC M i ≤ 52 then 1 else 0) ∧ PS M M1 (if 48 ≤ cC M i ∧ cC M i ≤ 52 then i + 1 else i) (if 48 ≤ cC M i ∧ cC M i ≤ 52 then t + 1 else t) (if 48 ≤ cC M i ∧ cC M i ≤ 52 then uz (M 97) t (cC M i - 48) else M 97))) M 0 [(0, .ref (ad 95))] []
  have hl := hP.1
  have hCb := cC_b hP
  have hCn := cC_n hP
  have hc0 := hCb i
  refine vv_aload_n X 0 rfl rfl dX4_readDigit_0 ?_
  refine vv_callVI (As := []) (st := []) (Nf := 6) X 0 (c_X4_sign l D cA had M i (hi) (by omega) (by assumption)) gX4_readDigit_X4_sign rfl (by decide +kernel) ⟨by decide, by decide⟩ (Nat.le_of_ble_eq_true rfl) ⟨by decide, by decide⟩ rfl (by decide) sh_95 rfl rfl dX4_readDigit_1 (fun z1 Mc1 q_1 => ?_)
  obtain ⟨e_z1, g_z1⟩ := q_1
  have g_z1 := g_z1.symm
  subst g_z1
  refine vv_bipush (n := 48) X (by decide) dX4_readDigit_4 ?_
  refine vv_isub X dX4_readDigit_6 ?_
  refine vv_istore_n (lv' := [(1, .int (zI (z1 - 48))), (0, .ref (ad 95))]) X rfl (by decide) rfl dX4_readDigit_7 ?_
  refine vv_iload_n X 0 rfl rfl dX4_readDigit_8 ?_
  refine vv_if_lt (tgt := 17) X (by omega) dX4_readDigit_9 (by decide) (fun c_9 => ?_) (fun c_9 => ?_)
  · skip
    refine vv_iconst (n := 0) X dX4_readDigit_17 ?_
    exact vv_zret X hm (by omega) (by
      have hno : ¬ (48 ≤ cC M i ∧ cC M i ≤ 52) := by omega
      rw [if_neg hno, if_neg hno, if_neg hno, if_neg hno]
      exact ⟨rfl, PS_rf hi h5⟩) dX4_readDigit_18
  · skip
    refine vv_iload_n X 0 rfl rfl dX4_readDigit_12 ?_
    refine vv_iconst (n := 4) X dX4_readDigit_13 ?_
    refine vv_icmp_le (tgt := 19) X (by omega) (by omega) dX4_readDigit_14 (by decide) (fun c_14 => ?_) (fun c_14 => ?_)
    · skip
      refine vv_aload_n X 1 rfl rfl dX4_readDigit_19 ?_
      refine vv_dup X rfl dX4_readDigit_20 ?_
      refine vv_geti (Nf := 6) (ref := (TX4 3).1) (z := (M 95 3)) X (by decide) sh_95 rfl 3 (by decide) u_X4_readDigit_4 k_X4_readDigit_25 rfl rfl (rfl) dX4_readDigit_21 ?_
      refine vv_iconst (n := 1) X dX4_readDigit_24 ?_
      refine vv_iadd X dX4_readDigit_25 ?_
      refine vv_puti (Nf := 6) (ref := (TX4 3).1) X (by decide) sh_95 rfl 3 (by decide) u_X4_readDigit_4 k_X4_readDigit_25 rfl tyX4_ok nmX4 rfl (by decide +kernel) rfl rfl dX4_readDigit_26 ?_
      refine vv_aload_n X 1 rfl rfl dX4_readDigit_29 ?_
      refine vv_iload_n X 0 rfl rfl dX4_readDigit_30 ?_
      refine vv_callVV (As := [.int (zI (z1 - 48))]) (st := []) (Nf := 6) X 1 (c_X4_tell l D cA had (up2 M 95 3 ((M 95 3) + 1)) (z1 - 48) t (by rw [up2_m _ _ _ (by decide)]; exact h5) (by omega)) gX4_readDigit_X4_tell rfl (by decide +kernel) ⟨by decide, by decide⟩ (Nat.le_of_ble_eq_true rfl) ⟨by decide, by decide⟩ rfl (by decide) sh_95 rfl rfl dX4_readDigit_31 (fun Mc31 q_31 => ?_)
      refine vv_iconst (n := 1) X dX4_readDigit_34 ?_
      exact vv_zret X hm (by omega) (by
        have hyes : 48 ≤ cC M i ∧ cC M i ≤ 52 := by omega
        rw [if_pos hyes, if_pos hyes, if_pos hyes, if_pos hyes]
        exact ⟨rfl, PS_3 (by rw [q_31, hi, e_z1]; rfl)⟩) dX4_readDigit_35
    · skip
      refine vv_iconst (n := 0) X dX4_readDigit_17 ?_
      exact vv_zret X hm (by omega) (by
        have hno : ¬ (48 ≤ cC M i ∧ cC M i ≤ 52) := by omega
        rw [if_neg hno, if_neg hno, if_neg hno, if_neg hno]
        exact ⟨rfl, PS_rf hi h5⟩) dX4_readDigit_18
theorem u_X4_readHire_4 : ∀ w ∈ u_ws RX4 TX4 6, w ∈ wsX4_readHire := by decide +kernel
theorem k_X4_readHire_17 : Cond.fieldLink yX4_readHire.cls 17 (TX4 1).1 (TX4 1).2.1 (TX4 1).2.2.1 ∈ wsX4_readHire := by decide +kernel
theorem k_X4_readHire_31 : Cond.fieldLink yX4_readHire.cls 31 (TX4 5).1 (TX4 5).2.1 (TX4 5).2.2.1 ∈ wsX4_readHire := by decide +kernel
set_option maxRecDepth 100000 in
set_option maxHeartbeats 4000000 in
theorem c_X4_readHire (l : Launch) (D : va_G) {ad : Nat → Nat} (cA : Nat → ClassId) (had : adok ad) (M : Mem) (i : Nat) (hi : M 95 3 = (i : Int)) (h5 : M 95 5 = ((0 : Nat) : Int)) (hil : (i : Int) ≤ M 95 2) (hP : PW M) : CtI l yX4_readHire wsX4_readHire 2 42 D ad cA [.ref (ad 95)] M (fun z M1 => TQ M M1 (HR (cC M) i) z) := by
  refine CtI.of (cc := cX4_readHire) (maxL := 2) (ret := (some .boolean)) had (by decide) rfl (Nat.le_of_ble_eq_true rfl) ?_
  intro p e s m args below meth c X hm
  show VV p l e { frames := 2, cells := 0, slots := 0, locals := 42 } s m args below meth c 2 D ad cA (Afr ad s.heap.size) 0 0 (QI below args s D ad cA (fun z M1 => TQ M M1 (HR (cC M) i) z)) M 0 [(0, .ref (ad 95))] []
  have hl := hP.1
  have hCb := cC_b hP
  have hCn := cC_n hP
  have hc0 := hCb i
  have hS0 := PS_rf hi h5
  have p0 := hS0.2
  refine vv_aload_n X 0 rfl rfl dX4_readHire_0 ?_
  refine vv_callVI (As := []) (st := []) (Nf := 6) X 0 (c_X4_readNumber l D cA had M i 0 (hi) (h5) (by omega) (by assumption) (by omega)) gX4_readHire_X4_readNumber rfl (by decide +kernel) ⟨by decide, by decide⟩ (Nat.le_of_ble_eq_true rfl) ⟨by decide, by decide⟩ rfl (by decide) sh_95 rfl rfl dX4_readHire_1 (fun z1 Mc1 q_1 => ?_)
  obtain ⟨e_z1, hs1⟩ := q_1
  skip
  obtain ⟨n1, en1⟩ : ∃ q, q = num (cC M) i := ⟨_, rfl⟩
  have l1 := num_le (C := cC M) (n := (M 95 2).toNat) (i := i) hCn (by omega)
  have b1 := num_b (C := cC M) (n := (M 95 2).toNat) (i := i) hCn
  rw [← en1] at e_z1 hs1 l1 b1
  have hS1 := PS_tr hS0 hs1
  refine vv_if_eq (tgt := 39) X (by rw [e_z1]; split <;> omega) dX4_readHire_4 (by decide) (fun c_4 => ?_) (fun c_4 => ?_)
  · skip
    have hf1 : n1.1 < 0 := Classical.byContradiction fun q => by rw [if_neg q] at e_z1; omega
    simp only [if_pos hf1] at hS1
    refine vv_iconst (n := 0) X dX4_readHire_39 ?_
    exact vv_zret X hm (by omega) (by
      rw [show HR (cC M) i = HR1 (cC M) n1 from by rw [en1]; rfl]
      unfold HR1
      rw [if_pos hf1]
      exact TQ_bad hS1) dX4_readHire_40
  · skip
    have hf1 : ¬ n1.1 < 0 := fun q => by rw [if_pos q] at e_z1; omega
    simp only [if_neg hf1] at hS1
    have p1 := hS1.2
    refine vv_aload_n X 0 rfl rfl dX4_readHire_7 ?_
    refine vv_bipush (n := 44) X (by decide) dX4_readHire_8 ?_
    refine vv_callVI (As := [.int (zI 44)]) (st := []) (Nf := 6) X 1 (c_X4_skip l D cA had Mc1 44 (by omega) n1.2 1 (hS1.2.1) (hS1.2.2.1) (by rw [hS1.1.1.2]; omega) (PS_W hS1 hP)) gX4_readHire_X4_skip rfl (by decide +kernel) ⟨by decide, by decide⟩ (Nat.le_of_ble_eq_true rfl) ⟨by decide, by decide⟩ rfl (by decide) sh_95 rfl rfl dX4_readHire_10 (fun z10 Mc10 q_10 => ?_)
    obtain ⟨e_z10, hs10⟩ := q_10
    rw [PS_c hS1] at e_z10 hs10
    rw [hS1.2.2.2] at hs10
    have hS10 := PS_tr hS1 hs10
    refine vv_if_eq (tgt := 39) X (by rw [e_z10]; split <;> omega) dX4_readHire_13 (by decide) (fun c_13 => ?_) (fun c_13 => ?_)
    · skip
      have hk10 : ¬ cC M n1.2 = 44 := fun q => by rw [if_pos q] at e_z10; omega
      simp only [if_neg hk10] at hS10
      have p10 := hS10.2
      refine vv_iconst (n := 0) X dX4_readHire_39 ?_
      exact vv_zret X hm (by omega) (by
        rw [show HR (cC M) i = HR1 (cC M) n1 from by rw [en1]; rfl]
        unfold HR1
        rw [if_neg hf1]
        rw [if_neg hk10]
        exact TQ_bad hS10) dX4_readHire_40
    · skip
      have hk10 : cC M n1.2 = 44 := Classical.byContradiction fun q => by rw [if_neg q] at e_z10; omega
      simp only [if_pos hk10] at hS10
      have p10 := hS10.2
      have g10 := C_lt hCn (i := n1.2) (by omega)
      refine vv_aload_n X 0 rfl rfl dX4_readHire_16 ?_
      refine vv_callVI (As := []) (st := []) (Nf := 6) X 0 (c_X4_readNumber l D cA had Mc10 (n1.2 + 1) 1 (hS10.2.1) (hS10.2.2.1) (by rw [hS10.1.1.2]; omega) (PS_W hS10 hP) (by omega)) gX4_readHire_X4_readNumber rfl (by decide +kernel) ⟨by decide, by decide⟩ (Nat.le_of_ble_eq_true rfl) ⟨by decide, by decide⟩ rfl (by decide) sh_95 rfl rfl dX4_readHire_17 (fun z17 Mc17 q_17 => ?_)
      obtain ⟨e_z17, hs17⟩ := q_17
      rw [PS_c hS10] at e_z17 hs17
      rw [hS10.2.2.2] at hs17
      obtain ⟨n17, en17⟩ : ∃ q, q = num (cC M) (n1.2 + 1) := ⟨_, rfl⟩
      have l17 := num_le (C := cC M) (n := (M 95 2).toNat) (i := n1.2 + 1) hCn (by omega)
      have b17 := num_b (C := cC M) (n := (M 95 2).toNat) (i := n1.2 + 1) hCn
      rw [← en17] at e_z17 hs17 l17 b17
      have hS17 := PS_tr hS10 hs17
      refine vv_if_eq (tgt := 39) X (by rw [e_z17]; split <;> omega) dX4_readHire_20 (by decide) (fun c_20 => ?_) (fun c_20 => ?_)
      · skip
        have hf17 : n17.1 < 0 := Classical.byContradiction fun q => by rw [if_neg q] at e_z17; omega
        simp only [if_pos hf17] at hS17
        refine vv_iconst (n := 0) X dX4_readHire_39 ?_
        exact vv_zret X hm (by omega) (by
          rw [show HR (cC M) i = HR1 (cC M) n1 from by rw [en1]; rfl]
          unfold HR1
          rw [if_neg hf1]
          rw [if_pos hk10, ← en17]
          unfold HR2
          rw [if_pos hf17]
          exact TQ_bad hS17) dX4_readHire_40
      · skip
        have hf17 : ¬ n17.1 < 0 := fun q => by rw [if_pos q] at e_z17; omega
        simp only [if_neg hf17] at hS17
        have p17 := hS17.2
        refine vv_aload_n X 0 rfl rfl dX4_readHire_23 ?_
        refine vv_bipush (n := 36) X (by decide) dX4_readHire_24 ?_
        refine vv_callVI (As := [.int (zI 36)]) (st := []) (Nf := 6) X 1 (c_X4_skip l D cA had Mc17 36 (by omega) n17.2 2 (hS17.2.1) (hS17.2.2.1) (by rw [hS17.1.1.2]; omega) (PS_W hS17 hP)) gX4_readHire_X4_skip rfl (by decide +kernel) ⟨by decide, by decide⟩ (Nat.le_of_ble_eq_true rfl) ⟨by decide, by decide⟩ rfl (by decide) sh_95 rfl rfl dX4_readHire_26 (fun z26 Mc26 q_26 => ?_)
        obtain ⟨e_z26, hs26⟩ := q_26
        rw [PS_c hS17] at e_z26 hs26
        rw [hS17.2.2.2] at hs26
        have hS26 := PS_tr hS17 hs26
        refine vv_if_eq (tgt := 39) X (by rw [e_z26]; split <;> omega) dX4_readHire_29 (by decide) (fun c_29 => ?_) (fun c_29 => ?_)
        · skip
          have hk26 : ¬ cC M n17.2 = 36 := fun q => by rw [if_pos q] at e_z26; omega
          simp only [if_neg hk26] at hS26
          have p26 := hS26.2
          refine vv_iconst (n := 0) X dX4_readHire_39 ?_
          exact vv_zret X hm (by omega) (by
            rw [show HR (cC M) i = HR1 (cC M) n1 from by rw [en1]; rfl]
            unfold HR1
            rw [if_neg hf1]
            rw [if_pos hk10, ← en17]
            unfold HR2
            rw [if_neg hf17]
            rw [if_neg hk26]
            exact TQ_bad hS26) dX4_readHire_40
        · skip
          have hk26 : cC M n17.2 = 36 := Classical.byContradiction fun q => by rw [if_neg q] at e_z26; omega
          simp only [if_pos hk26] at hS26
          have p26 := hS26.2
          have g26 := C_lt hCn (i := n17.2) (by omega)
          refine vv_aload_n X 0 rfl rfl dX4_readHire_32 ?_
          refine vv_callVI (As := []) (st := []) (Nf := 6) X 0 (c_X4_readNumber l D cA had Mc26 (n17.2 + 1) 2 (hS26.2.1) (hS26.2.2.1) (by rw [hS26.1.1.2]; omega) (PS_W hS26 hP) (by omega)) gX4_readHire_X4_readNumber rfl (by decide +kernel) ⟨by decide, by decide⟩ (Nat.le_of_ble_eq_true rfl) ⟨by decide, by decide⟩ rfl (by decide) sh_95 rfl rfl dX4_readHire_33 (fun z33 Mc33 q_33 => ?_)
          obtain ⟨e_z33, hs33⟩ := q_33
          rw [PS_c hS26] at e_z33 hs33
          rw [hS26.2.2.2] at hs33
          obtain ⟨n33, en33⟩ : ∃ q, q = num (cC M) (n17.2 + 1) := ⟨_, rfl⟩
          have l33 := num_le (C := cC M) (n := (M 95 2).toNat) (i := n17.2 + 1) hCn (by omega)
          have b33 := num_b (C := cC M) (n := (M 95 2).toNat) (i := n17.2 + 1) hCn
          rw [← en33] at e_z33 hs33 l33 b33
          have hS33 := PS_tr hS26 hs33
          refine vv_if_ne (tgt := 41) X (by rw [e_z33]; split <;> omega) dX4_readHire_36 (by decide) (fun c_36 => ?_) (fun c_36 => ?_)
          · skip
            have hf33 : ¬ n33.1 < 0 := fun q => by rw [if_pos q] at e_z33; omega
            simp only [if_neg hf33] at hS33
            have p33 := hS33.2
            refine vv_aload_n X 0 rfl rfl dX4_readHire_41 ?_
            refine vv_bipush (n := 33) X (by decide) dX4_readHire_42 ?_
            refine vv_callVI (As := [.int (zI 33)]) (st := []) (Nf := 6) X 1 (c_X4_skip l D cA had Mc33 33 (by omega) n33.2 3 (hS33.2.1) (hS33.2.2.1) (by rw [hS33.1.1.2]; omega) (PS_W hS33 hP)) gX4_readHire_X4_skip rfl (by decide +kernel) ⟨by decide, by decide⟩ (Nat.le_of_ble_eq_true rfl) ⟨by decide, by decide⟩ rfl (by decide) sh_95 rfl rfl dX4_readHire_44 (fun z44 Mc44 q_44 => ?_)
            obtain ⟨e_z44, hs44⟩ := q_44
            rw [PS_c hS33] at e_z44 hs44
            rw [hS33.2.2.2] at hs44
            have hS44 := PS_tr hS33 hs44
            refine vv_if_ne (tgt := 52) X (by rw [e_z44]; split <;> omega) dX4_readHire_47 (by decide) (fun c_47 => ?_) (fun c_47 => ?_)
            · skip
              have hk44 : cC M n33.2 = 33 := Classical.byContradiction fun q => by rw [if_neg q] at e_z44; omega
              simp only [if_pos hk44] at hS44
              have p44 := hS44.2
              have g44 := C_lt hCn (i := n33.2) (by omega)
              refine vv_aload_n X 0 rfl rfl dX4_readHire_52 ?_
              refine vv_bipush (n := 45) X (by decide) dX4_readHire_53 ?_
              refine vv_callVI (As := [.int (zI 45)]) (st := []) (Nf := 6) X 1 (c_X4_skip l D cA had Mc44 45 (by omega) (n33.2 + 1) 3 (hS44.2.1) (hS44.2.2.1) (by rw [hS44.1.1.2]; omega) (PS_W hS44 hP)) gX4_readHire_X4_skip rfl (by decide +kernel) ⟨by decide, by decide⟩ (Nat.le_of_ble_eq_true rfl) ⟨by decide, by decide⟩ rfl (by decide) sh_95 rfl rfl dX4_readHire_55 (fun z55 Mc55 q_55 => ?_)
              obtain ⟨e_z55, hs55⟩ := q_55
              rw [PS_c hS44] at e_z55 hs55
              rw [hS44.2.2.2] at hs55
              have hS55 := PS_tr hS44 hs55
              obtain ⟨p60, ep60⟩ : ∃ q, q = (if cC M (n33.2 + 1) = 45 then n33.2 + 1 + 1 else n33.2 + 1) := ⟨_, rfl⟩
              rw [← ep60] at hS55
              have lp60 : p60 ≤ (M 95 2).toNat := by
                rw [ep60]
                split
                · next q =>
                  have := C_lt hCn (i := n33.2 + 1) (by omega)
                  omega
                · omega
              refine vv_istore_n (lv' := [(1, .int (zI z55)), (0, .ref (ad 95))]) X rfl (by decide) rfl dX4_readHire_58 ?_
              refine vv_aload_n X 1 rfl rfl dX4_readHire_59 ?_
              refine vv_callVI (As := []) (st := []) (Nf := 6) X 0 (c_X4_readNumber l D cA had Mc55 p60 3 (hS55.2.1) (hS55.2.2.1) (by rw [hS55.1.1.2]; omega) (PS_W hS55 hP) (by omega)) gX4_readHire_X4_readNumber rfl (by decide +kernel) ⟨by decide, by decide⟩ (Nat.le_of_ble_eq_true rfl) ⟨by decide, by decide⟩ rfl (by decide) sh_95 rfl rfl dX4_readHire_60 (fun z60 Mc60 q_60 => ?_)
              obtain ⟨e_z60, hs60⟩ := q_60
              rw [PS_c hS55] at e_z60 hs60
              rw [hS55.2.2.2] at hs60
              obtain ⟨n60, en60⟩ : ∃ q, q = num (cC M) p60 := ⟨_, rfl⟩
              have l60 := num_le (C := cC M) (n := (M 95 2).toNat) (i := p60) hCn (by omega)
              have b60 := num_b (C := cC M) (n := (M 95 2).toNat) (i := p60) hCn
              rw [← en60] at e_z60 hs60 l60 b60
              have hS60 := PS_tr hS55 hs60
              refine vv_if_ne (tgt := 68) X (by rw [e_z60]; split <;> omega) dX4_readHire_63 (by decide) (fun c_63 => ?_) (fun c_63 => ?_)
              · skip
                have hf60 : ¬ n60.1 < 0 := fun q => by rw [if_pos q] at e_z60; omega
                simp only [if_neg hf60] at hS60
                have p60 := hS60.2
                refine vv_iload_n X 0 rfl rfl dX4_readHire_68 ?_
                refine vv_if_eq (tgt := 102) X (by rw [e_z55]; split <;> omega) dX4_readHire_69 (by decide) (fun c_69 => ?_) (fun c_69 => ?_)
                · skip
                  have hng : ¬ cC M (n33.2 + 1) = 45 := fun q => by rw [if_pos q] at e_z55; omega
                  skip
                  refine vv_iconst (n := 1) X dX4_readHire_102 ?_
                  exact vv_zret X hm (by omega) (by
                    rw [show HR (cC M) i = HR1 (cC M) n1 from by rw [en1]; rfl]
                    unfold HR1
                    rw [if_neg hf1]
                    rw [if_pos hk10, ← en17]
                    unfold HR2
                    rw [if_neg hf17]
                    rw [if_pos hk26, ← en33]
                    unfold HR3
                    rw [if_neg hf33]
                    rw [if_pos hk44, ← ep60, ← en60]
                    unfold HR4
                    rw [if_neg hf60]
                    rw [if_neg hng]
                    refine TQ_ok hS60 (by omega) (fun k hk => ?_) (fun q => absurd q (by decide))
                    unfold q4 uz
                    (repeat' split) <;> omega) dX4_readHire_103
                · skip
                  have hng : cC M (n33.2 + 1) = 45 := Classical.byContradiction fun q => by rw [if_neg q] at e_z55; omega
                  have e605 : Mc60 95 5 = 4 := hS60.2.2.1
                  refine vv_aload_n X 1 rfl rfl dX4_readHire_72 ?_
                  refine vv_geti (Nf := 6) (ref := (TX4 5).1) (z := (Mc60 95 5)) X (by decide) sh_95 rfl 5 (by decide) u_X4_readHire_4 k_X4_readHire_31 rfl rfl (rfl) dX4_readHire_73 ?_
                  refine vv_if_le (tgt := 102) X (by omega) dX4_readHire_76 (by decide) (fun c_76 => ?_) (fun c_76 => ?_)
                  · skip
                    omega
                  · skip
                    refine vv_aload_n X 1 rfl rfl dX4_readHire_79 ?_
                    refine vv_getr (Nf := 6) (ref := (TX4 1).1) X (by decide) sh_95 rfl 1 (by decide) u_X4_readHire_4 k_X4_readHire_17 rfl rfl dX4_readHire_80 ?_
                    refine vv_aload_n X 1 rfl rfl dX4_readHire_83 ?_
                    refine vv_geti (Nf := 6) (ref := (TX4 5).1) (z := (Mc60 95 5)) X (by decide) sh_95 rfl 5 (by decide) u_X4_readHire_4 k_X4_readHire_31 rfl rfl (rfl) dX4_readHire_84 ?_
                    refine vv_iconst (n := 1) X dX4_readHire_87 ?_
                    refine vv_isub X dX4_readHire_88 ?_
                    refine vv_aload_n X 1 rfl rfl dX4_readHire_89 ?_
                    refine vv_getr (Nf := 6) (ref := (TX4 1).1) X (by decide) sh_95 rfl 1 (by decide) u_X4_readHire_4 k_X4_readHire_17 rfl rfl dX4_readHire_90 ?_
                    refine vv_aload_n X 1 rfl rfl dX4_readHire_93 ?_
                    refine vv_geti (Nf := 6) (ref := (TX4 5).1) (z := (Mc60 95 5)) X (by decide) sh_95 rfl 5 (by decide) u_X4_readHire_4 k_X4_readHire_31 rfl rfl (rfl) dX4_readHire_94 ?_
                    refine vv_iconst (n := 1) X dX4_readHire_97 ?_
                    refine vv_isub X dX4_readHire_98 ?_
                    refine vv_iald (z := (Mc60 97 3)) X (by decide) sh_97 (by decide) (by omega) (by first | (rw [show (Mc60 95 5 - 1).toNat = 3 by omega]; done) | (rw [show (Mc60 95 5 - 1).toNat = 3 by omega]; exact (rfl))) dX4_readHire_99 ?_
                    refine vv_ineg X dX4_readHire_100 ?_
                    refine vv_iast (ix := 3) X (by decide) sh_97 (by decide) (by omega) (show (Mc60 95 5 - 1).toNat = 3 by omega) dX4_readHire_101 ?_
                    have hS60u : PS M (up2 Mc60 97 3 (-(Mc60 97 3))) n60.2 4 (uz (uz (uz (uz (uz (M 97) 0 n1.1) 1 n17.1) 2 n33.1) 3 n60.1) 3 (-n60.1)) := by
                      refine ⟨⟨PE_u7 hS60.1.1, by rw [up2_n _ _ _ (by decide)]; exact hS60.1.2⟩, by rw [up2_n _ _ _ (by decide)]; exact hS60.2.1, by rw [up2_n _ _ _ (by decide)]; exact hS60.2.2.1, ?_⟩
                      have e97 := hS60.2.2.2
                      show uz (Mc60 97) 3 (-(Mc60 97 3)) = _
                      rw [e97]
                      rfl
                    refine vv_iconst (n := 1) X dX4_readHire_102 ?_
                    exact vv_zret X hm (by omega) (by
                      rw [show HR (cC M) i = HR1 (cC M) n1 from by rw [en1]; rfl]
                      unfold HR1
                      rw [if_neg hf1]
                      rw [if_pos hk10, ← en17]
                      unfold HR2
                      rw [if_neg hf17]
                      rw [if_pos hk26, ← en33]
                      unfold HR3
                      rw [if_neg hf33]
                      rw [if_pos hk44, ← ep60, ← en60]
                      unfold HR4
                      rw [if_neg hf60]
                      rw [if_pos hng]
                      refine TQ_ok (hS60u) (by omega) (fun k hk => ?_) (fun q => absurd q (by decide))
                      unfold q4 uz
                      (repeat' split) <;> omega) dX4_readHire_103
              · skip
                have hf60 : n60.1 < 0 := Classical.byContradiction fun q => by rw [if_neg q] at e_z60; omega
                simp only [if_pos hf60] at hS60
                refine vv_iconst (n := 0) X dX4_readHire_66 ?_
                exact vv_zret X hm (by omega) (by
                  rw [show HR (cC M) i = HR1 (cC M) n1 from by rw [en1]; rfl]
                  unfold HR1
                  rw [if_neg hf1]
                  rw [if_pos hk10, ← en17]
                  unfold HR2
                  rw [if_neg hf17]
                  rw [if_pos hk26, ← en33]
                  unfold HR3
                  rw [if_neg hf33]
                  rw [if_pos hk44, ← ep60, ← en60]
                  unfold HR4
                  rw [if_pos hf60]
                  exact TQ_bad hS60) dX4_readHire_67
            · skip
              have hk44 : ¬ cC M n33.2 = 33 := fun q => by rw [if_pos q] at e_z44; omega
              simp only [if_neg hk44] at hS44
              have p44 := hS44.2
              refine vv_iconst (n := 1) X dX4_readHire_50 ?_
              exact vv_zret X hm (by omega) (by
                rw [show HR (cC M) i = HR1 (cC M) n1 from by rw [en1]; rfl]
                unfold HR1
                rw [if_neg hf1]
                rw [if_pos hk10, ← en17]
                unfold HR2
                rw [if_neg hf17]
                rw [if_pos hk26, ← en33]
                unfold HR3
                rw [if_neg hf33]
                rw [if_neg hk44]
                refine TQ_ok hS44 (by omega) (fun k hk => ?_) (fun q => absurd q (by decide))
                unfold q4 uz
                (repeat' split) <;> omega) dX4_readHire_51
          · skip
            have hf33 : n33.1 < 0 := Classical.byContradiction fun q => by rw [if_neg q] at e_z33; omega
            simp only [if_pos hf33] at hS33
            refine vv_iconst (n := 0) X dX4_readHire_39 ?_
            exact vv_zret X hm (by omega) (by
              rw [show HR (cC M) i = HR1 (cC M) n1 from by rw [en1]; rfl]
              unfold HR1
              rw [if_neg hf1]
              rw [if_pos hk10, ← en17]
              unfold HR2
              rw [if_neg hf17]
              rw [if_pos hk26, ← en33]
              unfold HR3
              rw [if_pos hf33]
              exact TQ_bad hS33) dX4_readHire_40
