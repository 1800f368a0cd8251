theorem u_X9_character_9 : ∀ w ∈ u_ws RX9 TX9 20, w ∈ wsX9_character := by decide +kernel
theorem k_X9_character_22 : Cond.fieldLink yX9_character.cls 22 (TX9 5).1 (TX9 5).2.1 (TX9 5).2.2.1 ∈ wsX9_character := by decide +kernel
theorem k_X9_character_150 : Cond.fieldLink yX9_character.cls 150 (TX9 6).1 (TX9 6).2.1 (TX9 6).2.2.1 ∈ wsX9_character := by decide +kernel
set_option maxRecDepth 100000 in
set_option maxHeartbeats 4000000 in
theorem c_X9_character (l : Launch) (D : va_G) {ad : Nat → Nat} (cA : Nat → ClassId) (had : adok ad) (M : Mem) (w : Int) (C : Nat → Int) (nn k i : Nat) (hS : RS M C nn k) (hw : w = (i : Int)) (hi : i ≤ 80) : CtI l yX9_character wsX9_character 0 0 D ad cA [.ref (ad 105), .int (zI w)] M (fun z M1 => z = ch C i ∧ M1 = M) := by
  refine CtI.of (cc := cX9_character) (maxL := 2) (ret := (some .int)) had (by decide) rfl (Nat.le_of_ble_eq_true rfl) ?_
  intro p e s m args below meth c X hm
  show VV p l e { frames := 0, cells := 0, slots := 0, locals := 0 } s m args below meth c 2 D ad cA (Afr ad s.heap.size) 0 0 (QI below args s D ad cA (fun z M1 => z = ch C i ∧ M1 = M)) M 0 [(0, .ref (ad 105)), (1, .int (zI w))] []
  have hl := hS.2.1.1
  have h6 := hS.2.2.1
  refine vv_iload_n X 1 rfl rfl dX9_character_0 ?_
  refine vv_aload_n X 0 rfl rfl dX9_character_1 ?_
  refine vv_geti (Nf := 20) (ref := (TX9 6).1) (z := (M 105 6)) X (by decide) sh_105 rfl 6 (by decide) u_X9_character_9 k_X9_character_150 rfl rfl (rfl) dX9_character_2 ?_
  refine vv_icmp_ge (tgt := 17) X (by omega) (by omega) dX9_character_5 (by decide) (fun c_5 => ?_) (fun c_5 => ?_)
  · skip
    refine vv_iconst (n := (-1)) X dX9_character_17 ?_
    exact vv_iret X hm (⟨by rw [show ch C i = -1 from if_pos (RS_n hS i (by omega))], rfl⟩) dX9_character_18
  · skip
    refine vv_aload_n X 0 rfl rfl dX9_character_8 ?_
    refine vv_getr (Nf := 20) (ref := (TX9 5).1) X (by decide) sh_105 rfl 5 (by decide) u_X9_character_9 k_X9_character_22 rfl rfl dX9_character_9 ?_
    refine vv_iload_n X 1 rfl rfl dX9_character_12 ?_
    refine vv_iald (z := (M 110 i)) X (by decide) sh_110 (by decide) (by omega) (by first | (rw [show w.toNat = i by omega]; done) | (rw [show w.toNat = i by omega]; exact (rfl))) dX9_character_13 ?_
    refine vv_goto (tgt := 18) X (by decide) dX9_character_14 ?_
    exact vv_iret X hm (by
      have e : C i = M 110 i := by
        rw [← hS.1]
        unfold rC
        rw [if_pos (by omega)]
      have hb := hS.2.1.2 i (by omega)
      refine ⟨?_, rfl⟩
      unfold ch
      rw [if_neg (by omega), e]) dX9_character_18
theorem u_X9_isNext_9 : ∀ w ∈ u_ws RX9 TX9 20, w ∈ wsX9_isNext := by decide +kernel
theorem k_X9_isNext_155 : Cond.fieldLink yX9_isNext.cls 155 (TX9 14).1 (TX9 14).2.1 (TX9 14).2.2.1 ∈ wsX9_isNext := by decide +kernel
set_option maxRecDepth 100000 in
set_option maxHeartbeats 4000000 in
theorem c_X9_isNext (l : Launch) (D : va_G) {ad : Nat → Nat} (cA : Nat → ClassId) (had : adok ad) (M : Mem) (w : Int) (hw : 1 ≤ w ∧ w ≤ 126) (C : Nat → Int) (nn i : Nat) (hS : RS M C nn i) (hin : i ≤ nn) : CtI l yX9_isNext wsX9_isNext 1 21 D ad cA [.ref (ad 105), .int (zI w)] M (fun z M1 => z = (if C i = w then 1 else 0) ∧ M1 = up2 M 105 14 (((if C i = w then i + 1 else i) : Nat) : Int)) := by
  refine CtI.of (cc := cX9_isNext) (maxL := 3) (ret := (some .boolean)) had (by decide) rfl (Nat.le_of_ble_eq_true rfl) ?_
  intro p e s m args below meth c X hm
  show VV p l e { frames := 1, cells := 0, slots := 0, locals := 21 } s m args below meth c 3 D ad cA (Afr ad s.heap.size) 0 0 (QI below args s D ad cA (fun z M1 => z = (if C i = w then 1 else 0) ∧ M1 = up2 M 105 14 (((if C i = w then i + 1 else i) : Nat) : Int))) M 0 [(0, .ref (ad 105)), (1, .int (zI w))] []
  have hn8 := RS_0 hS
  have hCn := RS_n hS
  have hCb := RS_b hS
  have hci := hCb i
  have h6 := hS.2.2.1
  refine vv_aload_n X 0 rfl rfl dX9_isNext_0 ?_
  refine vv_aload_n X 0 rfl rfl dX9_isNext_1 ?_
  refine vv_geti (Nf := 20) (ref := (TX9 14).1) (z := (M 105 14)) X (by decide) sh_105 rfl 14 (by decide) u_X9_isNext_9 k_X9_isNext_155 rfl rfl (rfl) dX9_isNext_2 ?_
  refine vv_callVI (As := [.int (zI (M 105 14))]) (st := []) (Nf := 20) X 1 (c_X9_character l D cA had M (M 105 14) C nn i i ⟨hS.1, hS.2.1, hS.2.2.1, hS.2.2.2⟩ (hS.2.2.2) (by omega)) gX9_isNext_X9_character rfl (by decide +kernel) ⟨by decide, by decide⟩ (Nat.le_of_ble_eq_true rfl) ⟨by decide, by decide⟩ rfl (by decide) sh_105 rfl rfl dX9_isNext_5 (fun z5 Mc5 q_5 => ?_)
  obtain ⟨e_z5, g_z5⟩ := q_5
  have g_z5 := g_z5.symm
  subst g_z5
  have hcb := ch_b hci
  have hch := ch_is (C := C) (i := i) (w := w) hw.1
  refine vv_iload_n X 1 rfl rfl dX9_isNext_8 ?_
  refine vv_icmp_ne (tgt := 16) X (by omega) (by omega) dX9_isNext_9 (by decide) (fun c_9 => ?_) (fun c_9 => ?_)
  · skip
    refine vv_iconst (n := 0) X dX9_isNext_16 ?_
    refine vv_istore_n (lv' := [(2, .int (zI 0)), (0, .ref (ad 105)), (1, .int (zI w))]) X rfl (by decide) rfl dX9_isNext_17 ?_
    refine vv_aload_n X 1 rfl rfl dX9_isNext_18 ?_
    refine vv_dup X rfl dX9_isNext_19 ?_
    refine vv_geti (Nf := 20) (ref := (TX9 14).1) (z := (M 105 14)) X (by decide) sh_105 rfl 14 (by decide) u_X9_isNext_9 k_X9_isNext_155 rfl rfl (rfl) dX9_isNext_20 ?_
    refine vv_iload_n X 0 rfl rfl dX9_isNext_23 ?_
    refine vv_if_eq (tgt := 31) X (by omega) dX9_isNext_24 (by decide) (fun c_24 => ?_) (fun c_24 => ?_)
    · skip
      refine vv_iconst (n := 0) X dX9_isNext_31 ?_
      refine vv_iadd X dX9_isNext_32 ?_
      refine vv_puti (Nf := 20) (ref := (TX9 14).1) X (by decide) sh_105 rfl 14 (by decide) u_X9_isNext_9 k_X9_isNext_155 rfl tyX9_ok nmX9 rfl (by decide +kernel) rfl rfl dX9_isNext_33 ?_
      refine vv_iload_n X 0 rfl rfl dX9_isNext_36 ?_
      exact vv_zret X hm (by omega) (by
        have q : ¬ C i = w := fun w1 => by have := hch.mpr w1; omega
        rw [if_neg q, if_neg q, hS.2.2.2]
        exact ⟨rfl, by rw [Int.add_zero]⟩) dX9_isNext_37
    · skip
      omega
  · skip
    refine vv_iconst (n := 1) X dX9_isNext_12 ?_
    refine vv_goto (tgt := 17) X (by decide) dX9_isNext_13 ?_
    refine vv_istore_n (lv' := [(2, .int (zI 1)), (0, .ref (ad 105)), (1, .int (zI w))]) X rfl (by decide) rfl dX9_isNext_17 ?_
    refine vv_aload_n X 1 rfl rfl dX9_isNext_18 ?_
    refine vv_dup X rfl dX9_isNext_19 ?_
    refine vv_geti (Nf := 20) (ref := (TX9 14).1) (z := (M 105 14)) X (by decide) sh_105 rfl 14 (by decide) u_X9_isNext_9 k_X9_isNext_155 rfl rfl (rfl) dX9_isNext_20 ?_
    refine vv_iload_n X 0 rfl rfl dX9_isNext_23 ?_
    refine vv_if_eq (tgt := 31) X (by omega) dX9_isNext_24 (by decide) (fun c_24 => ?_) (fun c_24 => ?_)
    · skip
      omega
    · skip
      refine vv_iconst (n := 1) X dX9_isNext_27 ?_
      refine vv_goto (tgt := 32) X (by decide) dX9_isNext_28 ?_
      refine vv_iadd X dX9_isNext_32 ?_
      refine vv_puti (Nf := 20) (ref := (TX9 14).1) X (by decide) sh_105 rfl 14 (by decide) u_X9_isNext_9 k_X9_isNext_155 rfl tyX9_ok nmX9 rfl (by decide +kernel) rfl rfl dX9_isNext_33 ?_
      refine vv_iload_n X 0 rfl rfl dX9_isNext_36 ?_
      exact vv_zret X hm (by omega) (by
        have q : C i = w := hch.mp (by omega)
        rw [if_pos q, if_pos q, hS.2.2.2]
        exact ⟨rfl, rfl⟩) dX9_isNext_37
theorem u_X9_takeDigit_9 : ∀ w ∈ u_ws RX9 TX9 20, w ∈ wsX9_takeDigit := by decide +kernel
theorem k_X9_takeDigit_155 : Cond.fieldLink yX9_takeDigit.cls 155 (TX9 14).1 (TX9 14).2.1 (TX9 14).2.2.1 ∈ wsX9_takeDigit := by decide +kernel
set_option maxRecDepth 100000 in
set_option maxHeartbeats 4000000 in
theorem c_X9_takeDigit (l : Launch) (D : va_G) {ad : Nat → Nat} (cA : Nat → ClassId) (had : adok ad) (M : Mem) (w : Int) (hw : 0 ≤ w ∧ w ≤ 9) (C : Nat → Int) (nn i : Nat) (hS : RS M C nn i) (hin : i ≤ nn) : CtI l yX9_takeDigit wsX9_takeDigit 1 22 D ad cA [.ref (ad 105), .int (zI w)] M (fun z M1 => z = (if 48 ≤ C i ∧ C i ≤ 48 + w then C i - 48 else -1) ∧ M1 = up2 M 105 14 (((if 48 ≤ C i ∧ C i ≤ 48 + w then i + 1 else i : Nat)) : Int)) := by
  refine CtI.of (cc := cX9_takeDigit) (maxL := 3) (ret := (some .int)) had (by decide) rfl (Nat.le_of_ble_eq_true rfl) ?_
  intro p e s m args below meth c X hm
  show VV p l e { frames := 1, cells := 0, slots := 0, locals := 22 } s m args below meth c 3 D ad cA (Afr ad s.heap.size) 0 0 (QI below args s D ad cA (fun z M1 => z = (if 48 ≤ C i ∧ C i ≤ 48 + w then C i - 48 else -1) ∧ M1 = up2 M 105 14 (((if 48 ≤ C i ∧ C i ≤ 48 + w then i + 1 else i : Nat)) : Int))) M 0 [(0, .ref (ad 105)), (1, .int (zI w))] []
  have hn8 := RS_0 hS
  have hCn := RS_n hS
  have hCb := RS_b hS
  have hci := hCb i
  have h6 := hS.2.2.1
  refine vv_aload_n X 0 rfl rfl dX9_takeDigit_0 ?_
  refine vv_aload_n X 0 rfl rfl dX9_takeDigit_1 ?_
  refine vv_geti (Nf := 20) (ref := (TX9 14).1) (z := (M 105 14)) X (by decide) sh_105 rfl 14 (by decide) u_X9_takeDigit_9 k_X9_takeDigit_155 rfl rfl (rfl) dX9_takeDigit_2 ?_
  refine vv_callVI (As := [.int (zI (M 105 14))]) (st := []) (Nf := 20) X 1 (c_X9_character l D cA had M (M 105 14) C nn i i ⟨hS.1, hS.2.1, hS.2.2.1, hS.2.2.2⟩ (hS.2.2.2) (by omega)) gX9_takeDigit_X9_character rfl (by decide +kernel) ⟨by decide, by decide⟩ (Nat.le_of_ble_eq_true rfl) ⟨by decide, by decide⟩ rfl (by decide) sh_105 rfl rfl dX9_takeDigit_5 (fun z5 Mc5 q_5 => ?_)
  obtain ⟨e_z5, g_z5⟩ := q_5
  have g_z5 := g_z5.symm
  subst g_z5
  have hcb := ch_b hci
  have hch := ch_in (C := C) (i := i) (a := 48) (b := 48 + w) (by decide)
  refine vv_bipush (n := 48) X (by decide) dX9_takeDigit_8 ?_
  refine vv_isub X dX9_takeDigit_10 ?_
  refine vv_istore_n (lv' := [(2, .int (zI (z5 - 48))), (0, .ref (ad 105)), (1, .int (zI w))]) X rfl (by decide) rfl dX9_takeDigit_11 ?_
  refine vv_iload_n X 0 rfl rfl dX9_takeDigit_12 ?_
  refine vv_iconst (n := 0) X dX9_takeDigit_13 ?_
  refine vv_iload_n X 2 rfl rfl dX9_takeDigit_14 ?_
  refine vv_callSI (As := [.int (zI (z5 - 48)), .int (zI 0), .int (zI w)]) (st := []) X 3 (c_X9_within l D cA had M (z5 - 48) 0 w (by omega) (by omega) (by omega)) gX9_takeDigit_X9_within rfl (by decide +kernel) ⟨by decide, by decide⟩ (Nat.le_of_ble_eq_true rfl) ⟨by decide, by decide⟩ rfl rfl dX9_takeDigit_15 (fun z15 Mc15 q_15 => ?_)
  obtain ⟨e_z15, g_z15⟩ := q_15
  have g_z15 := g_z15.symm
  subst g_z15
  refine vv_if_ne (tgt := 23) X (by rw [e_z15]; split <;> omega) dX9_takeDigit_18 (by decide) (fun c_18 => ?_) (fun c_18 => ?_)
  · skip
    refine vv_aload_n X 1 rfl rfl dX9_takeDigit_23 ?_
    refine vv_dup X rfl dX9_takeDigit_24 ?_
    refine vv_geti (Nf := 20) (ref := (TX9 14).1) (z := (M 105 14)) X (by decide) sh_105 rfl 14 (by decide) u_X9_takeDigit_9 k_X9_takeDigit_155 rfl rfl (rfl) dX9_takeDigit_25 ?_
    refine vv_iconst (n := 1) X dX9_takeDigit_28 ?_
    refine vv_iadd X dX9_takeDigit_29 ?_
    refine vv_puti (Nf := 20) (ref := (TX9 14).1) X (by decide) sh_105 rfl 14 (by decide) u_X9_takeDigit_9 k_X9_takeDigit_155 rfl tyX9_ok nmX9 rfl (by decide +kernel) rfl rfl dX9_takeDigit_30 ?_
    refine vv_iload_n X 0 rfl rfl dX9_takeDigit_33 ?_
    exact vv_iret X hm (by
      have q0 : 0 ≤ z5 - 48 ∧ z5 - 48 ≤ w := Classical.byContradiction fun q => by rw [if_neg q] at e_z15; omega
      have q : 48 ≤ C i ∧ C i ≤ 48 + w := hch.mp (by omega)
      have q1 : ch C i = C i := (ch_is (by omega)).mpr rfl
      rw [if_pos q, if_pos q, hS.2.2.2]
      exact ⟨by omega, rfl⟩) dX9_takeDigit_34
  · skip
    refine vv_iconst (n := (-1)) X dX9_takeDigit_21 ?_
    exact vv_iret X hm (by
      have q : ¬ (48 ≤ C i ∧ C i ≤ 48 + w) := fun w1 => by have := hch.mpr w1; rw [if_pos (by omega)] at e_z15; omega
      rw [if_neg q, if_neg q]
      exact ⟨rfl, (up2_id hS.2.2.2).symm⟩) dX9_takeDigit_22
theorem u_X9_takeNumber_9 : ∀ w ∈ u_ws RX9 TX9 20, w ∈ wsX9_takeNumber := by decide +kernel
theorem k_X9_takeNumber_155 : Cond.fieldLink yX9_takeNumber.cls 155 (TX9 14).1 (TX9 14).2.1 (TX9 14).2.2.1 ∈ wsX9_takeNumber := by decide +kernel
set_option maxRecDepth 100000 in
set_option maxHeartbeats 4000000 in
theorem c_X9_takeNumber (l : Launch) (D : va_G) {ad : Nat → Nat} (cA : Nat → ClassId) (had : adok ad) (M : Mem) (C : Nat → Int) (nn i : Nat) (hS : RS M C nn i) (hin : i ≤ nn) : CtI l yX9_takeNumber wsX9_takeNumber 2 44 D ad cA [.ref (ad 105)] M (fun z M1 => z = (num C i).1 ∧ M1 = up2 M 105 14 (((num C i).2 : Nat) : Int)) := by
  refine CtI.of (cc := cX9_takeNumber) (maxL := 2) (ret := (some .int)) had (by decide) rfl (Nat.le_of_ble_eq_true rfl) ?_
  intro p e s m args below meth c X hm
  show VV p l e { frames := 2, cells := 0, slots := 0, locals := 44 } s m args below meth c 2 D ad cA (Afr ad s.heap.size) 0 0 (QI below args s D ad cA (fun z M1 => z = (num C i).1 ∧ M1 = up2 M 105 14 (((num C i).2 : Nat) : Int))) M 0 [(0, .ref (ad 105))] []
  have hn8 := RS_0 hS
  have hCn := RS_n hS
  have hCb := RS_b hS
  have hci := hCb i
  have h6 := hS.2.2.1
  refine vv_aload_n X 0 rfl rfl dX9_takeNumber_0 ?_
  refine vv_bipush (n := 9) X (by decide) dX9_takeNumber_1 ?_
  refine vv_callVI (As := [.int (zI 9)]) (st := []) (Nf := 20) X 1 (c_X9_takeDigit l D cA had M 9 (by omega) C nn i ⟨hS.1, hS.2.1, hS.2.2.1, hS.2.2.2⟩ (by omega)) gX9_takeNumber_X9_takeDigit rfl (by decide +kernel) ⟨by decide, by decide⟩ (Nat.le_of_ble_eq_true rfl) ⟨by decide, by decide⟩ rfl (by decide) sh_105 rfl rfl dX9_takeNumber_3 (fun z3 Mc3 q_3 => ?_)
  obtain ⟨e_z3, g_z3⟩ := q_3
  subst g_z3
  obtain ⟨p3, ep3⟩ : ∃ q : Nat, q = if 48 ≤ C i ∧ C i ≤ 48 + 9 then i + 1 else i := ⟨_, rfl⟩
  rw [← ep3]
  have h39 : C i ≠ 0 → i < nn := fun q => C_lt hCn q
  have k3 : (i ≤ p3 ∧ p3 ≤ nn) ∧ (-1 ≤ z3 ∧ z3 ≤ 9) := by
    rw [ep3, e_z3]
    split
    · next q => have := h39 (by omega); omega
    · omega
  refine vv_istore_n (lv' := [(1, .int (zI z3)), (0, .ref (ad 105))]) X rfl (by decide) rfl dX9_takeNumber_6 ?_
  have loop_7 : ∀ (n : Nat) (M_7 : Mem) (j : Nat) (v : Int), M_7 = up2 M 105 14 (j : Int) → i ≤ j ∧ j ≤ nn → -1 ≤ v ∧ v ≤ 999 → nst C v j = num C i → nn - j < n → VV p l e { frames := 2, cells := 0, slots := 0, locals := 44 } s m args below meth c 2 D ad cA (Afr ad s.heap.size) 0 0 (QI below args s D ad cA (fun z M1 => z = (num C i).1 ∧ M1 = up2 M 105 14 (((num C i).2 : Nat) : Int))) M_7 7 [(0, .ref (ad 105)), (1, .int (zI v))] [] := by
    intro n
    induction n with
    | zero => intro M_7 j v hM hj hv hN hn; exact absurd hn (Nat.not_lt_zero _)
    | succ n ih_7 =>
      intro M_7 j v hM hj hv hN hn
      have hSj : RS M_7 C nn j := by rw [hM]; exact ⟨hS.1, hS.2.1, hS.2.2.1, rfl⟩
      have hcj := hCb j
      have hcjb := ch_b hcj
      have hch := ch_in (C := C) (i := j) (a := 48) (b := 57) (by decide)
      refine vv_iload_n X 1 rfl rfl dX9_takeNumber_7 ?_
      refine vv_if_le (tgt := 50) X (by omega) dX9_takeNumber_8 (by decide) (fun c_8 => ?_) (fun c_8 => ?_)
      · skip
        refine vv_iload_n X 1 rfl rfl dX9_takeNumber_50 ?_
        exact vv_iret X hm (by
          have hst : ¬ ((0 < v ∧ v < 100) ∧ dg C j) := fun q => by have := q.1; omega
          rw [nst_end hst] at hN
          rw [← hN]
          exact ⟨rfl, hM⟩) dX9_takeNumber_51
      · skip
        refine vv_iload_n X 1 rfl rfl dX9_takeNumber_11 ?_
        refine vv_bipush (n := 100) X (by decide) dX9_takeNumber_12 ?_
        refine vv_icmp_ge (tgt := 50) X (by omega) (by omega) dX9_takeNumber_14 (by decide) (fun c_14 => ?_) (fun c_14 => ?_)
        · skip
          refine vv_iload_n X 1 rfl rfl dX9_takeNumber_50 ?_
          exact vv_iret X hm (by
            have hst : ¬ ((0 < v ∧ v < 100) ∧ dg C j) := fun q => by have := q.1; omega
            rw [nst_end hst] at hN
            rw [← hN]
            exact ⟨rfl, hM⟩) dX9_takeNumber_51
        · skip
          refine vv_aload_n X 0 rfl rfl dX9_takeNumber_17 ?_
          refine vv_aload_n X 0 rfl rfl dX9_takeNumber_18 ?_
          refine vv_geti (Nf := 20) (ref := (TX9 14).1) (z := (M_7 105 14)) X (by decide) sh_105 rfl 14 (by decide) u_X9_takeNumber_9 k_X9_takeNumber_155 rfl rfl (rfl) dX9_takeNumber_19 ?_
          refine vv_callVI (As := [.int (zI (M_7 105 14))]) (st := []) (Nf := 20) X 1 (c_X9_character l D cA had M_7 (M_7 105 14) C nn j j ⟨hSj.1, hSj.2.1, hSj.2.2.1, hSj.2.2.2⟩ (hSj.2.2.2) (by omega)) gX9_takeNumber_X9_character rfl (by decide +kernel) ⟨by decide, by decide⟩ (Nat.le_of_ble_eq_true rfl) ⟨by decide, by decide⟩ rfl (by decide) sh_105 rfl rfl dX9_takeNumber_22 (fun z22 Mc22 q_22 => ?_)
          obtain ⟨e_z22, g_z22⟩ := q_22
          have g_z22 := g_z22.symm
          subst g_z22
          refine vv_bipush (n := 48) X (by decide) dX9_takeNumber_25 ?_
          refine vv_bipush (n := 57) X (by decide) dX9_takeNumber_27 ?_
          refine vv_callSI (As := [.int (zI z22), .int (zI 48), .int (zI 57)]) (st := []) X 3 (c_X9_within l D cA had M_7 z22 48 57 (by omega) (by omega) (by omega)) gX9_takeNumber_X9_within rfl (by decide +kernel) ⟨by decide, by decide⟩ (Nat.le_of_ble_eq_true rfl) ⟨by decide, by decide⟩ rfl rfl dX9_takeNumber_29 (fun z29 Mc29 q_29 => ?_)
          obtain ⟨e_z29, g_z29⟩ := q_29
          have g_z29 := g_z29.symm
          subst g_z29
          refine vv_if_eq (tgt := 50) X (by rw [e_z29]; split <;> omega) dX9_takeNumber_32 (by decide) (fun c_32 => ?_) (fun c_32 => ?_)
          · skip
            have hdj : ¬ dg C j := fun q => by have := hch.mpr q; rw [if_pos (by omega)] at e_z29; omega
            refine vv_iload_n X 1 rfl rfl dX9_takeNumber_50 ?_
            exact vv_iret X hm (by
              have hst : ¬ ((0 < v ∧ v < 100) ∧ dg C j) := fun q => hdj q.2
              rw [nst_end hst] at hN
              rw [← hN]
              exact ⟨rfl, hM⟩) dX9_takeNumber_51
          · skip
            have hdj : dg C j := by
              have q0 : 48 ≤ z22 ∧ z22 ≤ 57 := Classical.byContradiction fun q => by rw [if_neg q] at e_z29; omega
              exact hch.mp (by omega)
            have hjn : j < nn := C_lt hCn (by have := hdj.1; omega)
            refine vv_bipush (n := 10) X (by decide) dX9_takeNumber_35 ?_
            refine vv_iload_n X 1 rfl rfl dX9_takeNumber_37 ?_
            refine vv_imul X dX9_takeNumber_38 ?_
            refine vv_aload_n X 0 rfl rfl dX9_takeNumber_39 ?_
            refine vv_bipush (n := 9) X (by decide) dX9_takeNumber_40 ?_
            refine vv_callVI (As := [.int (zI 9)]) (st := [.int (zI (10 * v))]) (Nf := 20) X 1 (c_X9_takeDigit l D cA had M_7 9 (by omega) C nn j ⟨hSj.1, hSj.2.1, hSj.2.2.1, hSj.2.2.2⟩ (by omega)) gX9_takeNumber_X9_takeDigit rfl (by decide +kernel) ⟨by decide, by decide⟩ (Nat.le_of_ble_eq_true rfl) ⟨by decide, by decide⟩ rfl (by decide) sh_105 rfl rfl dX9_takeNumber_42 (fun z42 Mc42 q_42 => ?_)
            obtain ⟨e_z42, g_z42⟩ := q_42
            subst g_z42
            obtain ⟨p42, ep42⟩ : ∃ q : Nat, q = if 48 ≤ C j ∧ C j ≤ 48 + 9 then j + 1 else j := ⟨_, rfl⟩
            rw [← ep42]
            rw [if_pos (show 48 ≤ C j ∧ C j ≤ 48 + 9 from hdj)] at e_z42 ep42
            have hdj2 := hdj
            refine vv_iadd X dX9_takeNumber_45 ?_
            refine vv_istore_n (lv' := [(1, .int (zI ((10 * v) + z42))), (0, .ref (ad 105))]) X rfl (by decide) rfl dX9_takeNumber_46 ?_
            refine vv_goto (tgt := 7) X (by decide) dX9_takeNumber_47 ?_
            refine vv_sub (lv' := [(0, .ref (ad 105)), (1, .int (zI ((10 * v) + z42)))]) [1, 0] rfl ?_
            exact ih_7 (up2 M_7 105 14 ((p42 : Nat) : Int)) p42 ((10 * v) + z42) (by rw [hM, up2_up2]) (by omega) (by omega) (by rw [← hN, nst_go ⟨⟨by omega, by omega⟩, hdj⟩, e_z42, ep42]) (by omega)
  refine vv_sub (lv' := [(0, .ref (ad 105)), (1, .int (zI z3))]) [1, 0] rfl ?_
  exact loop_7 _ (up2 M 105 14 ((p3 : Nat) : Int)) p3 z3 rfl (by omega) (by omega) (by
    by_cases q : dg C i
    · rw [if_pos (show 48 ≤ C i ∧ C i ≤ 48 + 9 from q)] at e_z3 ep3
      rw [num_yes q, e_z3, ep3]
    · rw [if_neg (show ¬ (48 ≤ C i ∧ C i ≤ 48 + 9) from q)] at e_z3 ep3
      rw [num_no q, e_z3, ep3]
      exact nst_end (fun w => by have := w.1.1; omega)) (Nat.lt_succ_self _)
theorem u_X9_readsReceiver_9 : ∀ w ∈ u_ws RX9 TX9 20, w ∈ wsX9_readsReceiver := by decide +kernel
theorem k_X9_readsReceiver_167 : Cond.fieldLink yX9_readsReceiver.cls 167 (TX9 16).1 (TX9 16).2.1 (TX9 16).2.2.1 ∈ wsX9_readsReceiver := by decide +kernel
theorem k_X9_readsReceiver_173 : Cond.fieldLink yX9_readsReceiver.cls 173 (TX9 17).1 (TX9 17).2.1 (TX9 17).2.2.1 ∈ wsX9_readsReceiver := by decide +kernel
theorem k_X9_readsReceiver_176 : Cond.fieldLink yX9_readsReceiver.cls 176 (TX9 18).1 (TX9 18).2.1 (TX9 18).2.2.1 ∈ wsX9_readsReceiver := by decide +kernel
theorem k_X9_readsReceiver_179 : Cond.fieldLink yX9_readsReceiver.cls 179 (TX9 19).1 (TX9 19).2.1 (TX9 19).2.2.1 ∈ wsX9_readsReceiver := by decide +kernel
set_option maxRecDepth 100000 in
set_option maxHeartbeats 4000000 in
theorem c_X9_readsReceiver (l : Launch) (D : va_G) {ad : Nat → Nat} (cA : Nat → ClassId) (had : adok ad) (M : Mem) (C : Nat → Int) (nn i : Nat) (hS : RS M C nn i) (hin : i ≤ nn) : CtI l yX9_readsReceiver wsX9_readsReceiver 3 65 D ad cA [.ref (ad 105)] M (fun z M1 => OQ M M1 (HR C i) z (HF M1 (HR C i).2.2.2.1)) := by
  refine CtI.of (cc := cX9_readsReceiver) (maxL := 3) (ret := (some .boolean)) had (by decide) rfl (Nat.le_of_ble_eq_true rfl) ?_
  intro p e s m args below meth c X hm
  show VV p l e { frames := 3, cells := 0, slots := 0, locals := 65 } s m args below meth c 3 D ad cA (Afr ad s.heap.size) 0 0 (QI below args s D ad cA (fun z M1 => OQ M M1 (HR C i) z (HF M1 (HR C i).2.2.2.1))) M 0 [(0, .ref (ad 105))] []
  have hn8 := RS_0 hS
  have hCn := RS_n hS
  have hCb := RS_b hS
  have hci := hCb i
  have h6 := hS.2.2.1
  refine vv_aload_n X 0 rfl rfl dX9_readsReceiver_0 ?_
  refine vv_aload_n X 0 rfl rfl dX9_readsReceiver_1 ?_
  refine vv_callVI (As := []) (st := [.ref (ad 105)]) (Nf := 20) X 0 (c_X9_takeNumber l D cA had M C nn i ⟨hS.1, hS.2.1, hS.2.2.1, hS.2.2.2⟩ (by omega)) gX9_readsReceiver_X9_takeNumber rfl (by decide +kernel) ⟨by decide, by decide⟩ (Nat.le_of_ble_eq_true rfl) ⟨by decide, by decide⟩ rfl (by decide) sh_105 rfl rfl dX9_readsReceiver_2 (fun z2 Mc2 q_2 => ?_)
  obtain ⟨e_z2, g_z2⟩ := q_2
  subst g_z2
  obtain ⟨n2, en2⟩ : ∃ q, q = num C i := ⟨_, rfl⟩
  have l2 := num_le (C := C) (n := nn) (i := i) hCn (by omega)
  have b2 := num_b (C := C) (n := nn) (i := i) hCn
  have m2 := num_m (C := C) (n := nn) (i := i) hCn
  rw [← en2] at e_z2 l2 b2 m2 ⊢
  subst e_z2
  refine vv_puti (Nf := 20) (ref := (TX9 16).1) X (by decide) sh_105 rfl 16 (by decide) u_X9_readsReceiver_9 k_X9_readsReceiver_167 rfl tyX9_ok nmX9 rfl (by decide +kernel) rfl rfl dX9_readsReceiver_5 ?_
  refine vv_aload_n X 0 rfl rfl dX9_readsReceiver_8 ?_
  refine vv_aload_n X 0 rfl rfl dX9_readsReceiver_9 ?_
  refine vv_geti (Nf := 20) (ref := (TX9 16).1) (z := n2.1) X (by decide) sh_105 rfl 16 (by decide) u_X9_readsReceiver_9 k_X9_readsReceiver_167 rfl rfl (rfl) dX9_readsReceiver_10 ?_
  refine vv_if_lt (tgt := 32) X (by omega) dX9_readsReceiver_13 (by decide) (fun c_13 => ?_) (fun c_13 => ?_)
  · skip
    refine vv_iconst (n := (-1)) X dX9_readsReceiver_32 ?_
    refine vv_puti (Nf := 20) (ref := (TX9 17).1) X (by decide) sh_105 rfl 17 (by decide) u_X9_readsReceiver_9 k_X9_readsReceiver_173 rfl tyX9_ok nmX9 rfl (by decide +kernel) rfl rfl dX9_readsReceiver_33 ?_
    refine vv_aload_n X 0 rfl rfl dX9_readsReceiver_36 ?_
    refine vv_aload_n X 0 rfl rfl dX9_readsReceiver_37 ?_
    refine vv_geti (Nf := 20) (ref := (TX9 17).1) (z := (-1)) X (by decide) sh_105 rfl 17 (by decide) u_X9_readsReceiver_9 k_X9_readsReceiver_173 rfl rfl (rfl) dX9_readsReceiver_38 ?_
    refine vv_if_lt (tgt := 60) X (by omega) dX9_readsReceiver_41 (by decide) (fun c_41 => ?_) (fun c_41 => ?_)
    · skip
      refine vv_iconst (n := (-1)) X dX9_readsReceiver_60 ?_
      refine vv_puti (Nf := 20) (ref := (TX9 18).1) X (by decide) sh_105 rfl 18 (by decide) u_X9_readsReceiver_9 k_X9_readsReceiver_176 rfl tyX9_ok nmX9 rfl (by decide +kernel) rfl rfl dX9_readsReceiver_61 ?_
      refine vv_aload_n X 0 rfl rfl dX9_readsReceiver_64 ?_
      refine vv_iconst (n := 0) X dX9_readsReceiver_65 ?_
      refine vv_puti (Nf := 20) (ref := (TX9 19).1) X (by decide) sh_105 rfl 19 (by decide) u_X9_readsReceiver_9 k_X9_readsReceiver_179 rfl tyX9_ok nmX9 rfl (by decide +kernel) rfl rfl dX9_readsReceiver_66 ?_
      refine vv_aload_n X 0 rfl rfl dX9_readsReceiver_69 ?_
      refine vv_geti (Nf := 20) (ref := (TX9 18).1) (z := (-1)) X (by decide) sh_105 rfl 18 (by decide) u_X9_readsReceiver_9 k_X9_readsReceiver_176 rfl rfl (rfl) dX9_readsReceiver_70 ?_
      refine vv_if_lt (tgt := 121) X (by omega) dX9_readsReceiver_73 (by decide) (fun c_73 => ?_) (fun c_73 => ?_)
      · skip
        refine vv_aload_n X 0 rfl rfl dX9_readsReceiver_121 ?_
        refine vv_geti (Nf := 20) (ref := (TX9 18).1) (z := (-1)) X (by decide) sh_105 rfl 18 (by decide) u_X9_readsReceiver_9 k_X9_readsReceiver_176 rfl rfl (rfl) dX9_readsReceiver_122 ?_
        refine vv_if_lt (tgt := 132) X (by omega) dX9_readsReceiver_125 (by decide) (fun c_125 => ?_) (fun c_125 => ?_)
        · skip
          refine vv_iconst (n := 0) X dX9_readsReceiver_132 ?_
          exact vv_zret X hm (by omega) (by
            rw [show HR C i = HR1 C n2 from by rw [en2]; rfl]
            unfold HR1
            rw [if_pos c_13]
            exact OQ_bad (KQ_up (by decide) (by decide) (KQ_up (by decide) (by decide) (KQ_up (by decide) (by decide) (KQ_up (by decide) (by decide) (KQ_up (by decide) (by decide) (KQ_rf M)))))) rfl rfl) dX9_readsReceiver_133
        · skip
          omega
      · skip
        omega
    · skip
      omega
  · skip
    refine vv_aload_n X 0 rfl rfl dX9_readsReceiver_16 ?_
    refine vv_bipush (n := 44) X (by decide) dX9_readsReceiver_17 ?_
    refine vv_callVI (As := [.int (zI 44)]) (st := [.ref (ad 105)]) (Nf := 20) X 1 (c_X9_isNext l D cA had (up2 (up2 M 105 14 ((n2.2 : Nat) : Int)) 105 16 n2.1) 44 (by omega) C nn n2.2 ⟨hS.1, hS.2.1, hS.2.2.1, rfl⟩ (by omega)) gX9_readsReceiver_X9_isNext rfl (by decide +kernel) ⟨by decide, by decide⟩ (Nat.le_of_ble_eq_true rfl) ⟨by decide, by decide⟩ rfl (by decide) sh_105 rfl rfl dX9_readsReceiver_19 (fun z19 Mc19 q_19 => ?_)
    obtain ⟨e_z19, g_z19⟩ := q_19
    subst g_z19
    obtain ⟨p19, ep19⟩ : ∃ q : Nat, q = if C n2.2 = 44 then n2.2 + 1 else n2.2 := ⟨_, rfl⟩
    rw [← ep19]
    refine vv_if_eq (tgt := 32) X (by rw [e_z19]; split <;> omega) dX9_readsReceiver_22 (by decide) (fun c_22 => ?_) (fun c_22 => ?_)
    · skip
      have hk19 : ¬ C n2.2 = 44 := fun q => by rw [if_pos q] at e_z19; omega
      rw [if_neg hk19] at ep19
      subst ep19
      refine vv_iconst (n := (-1)) X dX9_readsReceiver_32 ?_
      refine vv_puti (Nf := 20) (ref := (TX9 17).1) X (by decide) sh_105 rfl 17 (by decide) u_X9_readsReceiver_9 k_X9_readsReceiver_173 rfl tyX9_ok nmX9 rfl (by decide +kernel) rfl rfl dX9_readsReceiver_33 ?_
      refine vv_aload_n X 0 rfl rfl dX9_readsReceiver_36 ?_
      refine vv_aload_n X 0 rfl rfl dX9_readsReceiver_37 ?_
      refine vv_geti (Nf := 20) (ref := (TX9 17).1) (z := (-1)) X (by decide) sh_105 rfl 17 (by decide) u_X9_readsReceiver_9 k_X9_readsReceiver_173 rfl rfl (rfl) dX9_readsReceiver_38 ?_
      refine vv_if_lt (tgt := 60) X (by omega) dX9_readsReceiver_41 (by decide) (fun c_41 => ?_) (fun c_41 => ?_)
      · skip
        refine vv_iconst (n := (-1)) X dX9_readsReceiver_60 ?_
        refine vv_puti (Nf := 20) (ref := (TX9 18).1) X (by decide) sh_105 rfl 18 (by decide) u_X9_readsReceiver_9 k_X9_readsReceiver_176 rfl tyX9_ok nmX9 rfl (by decide +kernel) rfl rfl dX9_readsReceiver_61 ?_
        refine vv_aload_n X 0 rfl rfl dX9_readsReceiver_64 ?_
        refine vv_iconst (n := 0) X dX9_readsReceiver_65 ?_
        refine vv_puti (Nf := 20) (ref := (TX9 19).1) X (by decide) sh_105 rfl 19 (by decide) u_X9_readsReceiver_9 k_X9_readsReceiver_179 rfl tyX9_ok nmX9 rfl (by decide +kernel) rfl rfl dX9_readsReceiver_66 ?_
        refine vv_aload_n X 0 rfl rfl dX9_readsReceiver_69 ?_
        refine vv_geti (Nf := 20) (ref := (TX9 18).1) (z := (-1)) X (by decide) sh_105 rfl 18 (by decide) u_X9_readsReceiver_9 k_X9_readsReceiver_176 rfl rfl (rfl) dX9_readsReceiver_70 ?_
        refine vv_if_lt (tgt := 121) X (by omega) dX9_readsReceiver_73 (by decide) (fun c_73 => ?_) (fun c_73 => ?_)
        · skip
          refine vv_aload_n X 0 rfl rfl dX9_readsReceiver_121 ?_
          refine vv_geti (Nf := 20) (ref := (TX9 18).1) (z := (-1)) X (by decide) sh_105 rfl 18 (by decide) u_X9_readsReceiver_9 k_X9_readsReceiver_176 rfl rfl (rfl) dX9_readsReceiver_122 ?_
          refine vv_if_lt (tgt := 132) X (by omega) dX9_readsReceiver_125 (by decide) (fun c_125 => ?_) (fun c_125 => ?_)
          · skip
            refine vv_iconst (n := 0) X dX9_readsReceiver_132 ?_
            exact vv_zret X hm (by omega) (by
              rw [show HR C i = HR1 C n2 from by rw [en2]; rfl]
              unfold HR1
              rw [if_neg (Int.not_lt.mpr c_13)]
              rw [if_neg hk19]
              exact OQ_bad (KQ_up (by decide) (by decide) (KQ_up (by decide) (by decide) (KQ_up (by decide) (by decide) (KQ_up (by decide) (by decide) (KQ_up (by decide) (by decide) (KQ_up (by decide) (by decide) (KQ_rf M))))))) rfl rfl) dX9_readsReceiver_133
          · skip
            omega
        · skip
          omega
      · skip
        omega
    · skip
      have hk19 : C n2.2 = 44 := Classical.byContradiction fun q => by rw [if_neg q] at e_z19; omega
      rw [if_pos hk19] at ep19
      have g19 := C_lt hCn (i := n2.2) (by omega)
      refine vv_aload_n X 0 rfl rfl dX9_readsReceiver_25 ?_
      refine vv_callVI (As := []) (st := [.ref (ad 105)]) (Nf := 20) X 0 (c_X9_takeNumber l D cA had (up2 (up2 (up2 M 105 14 ((n2.2 : Nat) : Int)) 105 16 n2.1) 105 14 ((p19 : Nat) : Int)) C nn p19 ⟨hS.1, hS.2.1, hS.2.2.1, rfl⟩ (by omega)) gX9_readsReceiver_X9_takeNumber rfl (by decide +kernel) ⟨by decide, by decide⟩ (Nat.le_of_ble_eq_true rfl) ⟨by decide, by decide⟩ rfl (by decide) sh_105 rfl rfl dX9_readsReceiver_26 (fun z26 Mc26 q_26 => ?_)
      obtain ⟨e_z26, g_z26⟩ := q_26
      subst g_z26
      obtain ⟨n26, en26⟩ : ∃ q, q = num C p19 := ⟨_, rfl⟩
      have l26 := num_le (C := C) (n := nn) (i := p19) hCn (by omega)
      have b26 := num_b (C := C) (n := nn) (i := p19) hCn
      have m26 := num_m (C := C) (n := nn) (i := p19) hCn
      rw [← en26] at e_z26 l26 b26 m26 ⊢
      subst e_z26
      rw [ep19] at en26
      refine vv_goto (tgt := 33) X (by decide) dX9_readsReceiver_29 ?_
      refine vv_puti (Nf := 20) (ref := (TX9 17).1) X (by decide) sh_105 rfl 17 (by decide) u_X9_readsReceiver_9 k_X9_readsReceiver_173 rfl tyX9_ok nmX9 rfl (by decide +kernel) rfl rfl dX9_readsReceiver_33 ?_
      refine vv_aload_n X 0 rfl rfl dX9_readsReceiver_36 ?_
      refine vv_aload_n X 0 rfl rfl dX9_readsReceiver_37 ?_
      refine vv_geti (Nf := 20) (ref := (TX9 17).1) (z := n26.1) X (by decide) sh_105 rfl 17 (by decide) u_X9_readsReceiver_9 k_X9_readsReceiver_173 rfl rfl (rfl) dX9_readsReceiver_38 ?_
      refine vv_if_lt (tgt := 60) X (by omega) dX9_readsReceiver_41 (by decide) (fun c_41 => ?_) (fun c_41 => ?_)
      · skip
        refine vv_iconst (n := (-1)) X dX9_readsReceiver_60 ?_
        refine vv_puti (Nf := 20) (ref := (TX9 18).1) X (by decide) sh_105 rfl 18 (by decide) u_X9_readsReceiver_9 k_X9_readsReceiver_176 rfl tyX9_ok nmX9 rfl (by decide +kernel) rfl rfl dX9_readsReceiver_61 ?_
        refine vv_aload_n X 0 rfl rfl dX9_readsReceiver_64 ?_
        refine vv_iconst (n := 0) X dX9_readsReceiver_65 ?_
        refine vv_puti (Nf := 20) (ref := (TX9 19).1) X (by decide) sh_105 rfl 19 (by decide) u_X9_readsReceiver_9 k_X9_readsReceiver_179 rfl tyX9_ok nmX9 rfl (by decide +kernel) rfl rfl dX9_readsReceiver_66 ?_
        refine vv_aload_n X 0 rfl rfl dX9_readsReceiver_69 ?_
        refine vv_geti (Nf := 20) (ref := (TX9 18).1) (z := (-1)) X (by decide) sh_105 rfl 18 (by decide) u_X9_readsReceiver_9 k_X9_readsReceiver_176 rfl rfl (rfl) dX9_readsReceiver_70 ?_
        refine vv_if_lt (tgt := 121) X (by omega) dX9_readsReceiver_73 (by decide) (fun c_73 => ?_) (fun c_73 => ?_)
        · skip
          refine vv_aload_n X 0 rfl rfl dX9_readsReceiver_121 ?_
          refine vv_geti (Nf := 20) (ref := (TX9 18).1) (z := (-1)) X (by decide) sh_105 rfl 18 (by decide) u_X9_readsReceiver_9 k_X9_readsReceiver_176 rfl rfl (rfl) dX9_readsReceiver_122 ?_
          refine vv_if_lt (tgt := 132) X (by omega) dX9_readsReceiver_125 (by decide) (fun c_125 => ?_) (fun c_125 => ?_)
          · skip
            refine vv_iconst (n := 0) X dX9_readsReceiver_132 ?_
            exact vv_zret X hm (by omega) (by
              rw [show HR C i = HR1 C n2 from by rw [en2]; rfl]
              unfold HR1
              rw [if_neg (Int.not_lt.mpr c_13)]
              rw [if_pos hk19, ← en26]
              unfold HR2
              rw [if_pos c_41]
              exact OQ_bad (KQ_up (by decide) (by decide) (KQ_up (by decide) (by decide) (KQ_up (by decide) (by decide) (KQ_up (by decide) (by decide) (KQ_up (by decide) (by decide) (KQ_up (by decide) (by decide) (KQ_up (by decide) (by decide) (KQ_rf M)))))))) rfl rfl) dX9_readsReceiver_133
          · skip
            omega
        · skip
          omega
      · skip
        refine vv_aload_n X 0 rfl rfl dX9_readsReceiver_44 ?_
        refine vv_bipush (n := 36) X (by decide) dX9_readsReceiver_45 ?_
        refine vv_callVI (As := [.int (zI 36)]) (st := [.ref (ad 105)]) (Nf := 20) X 1 (c_X9_isNext l D cA had (up2 (up2 (up2 (up2 (up2 M 105 14 ((n2.2 : Nat) : Int)) 105 16 n2.1) 105 14 ((p19 : Nat) : Int)) 105 14 ((n26.2 : Nat) : Int)) 105 17 n26.1) 36 (by omega) C nn n26.2 ⟨hS.1, hS.2.1, hS.2.2.1, rfl⟩ (by omega)) gX9_readsReceiver_X9_isNext rfl (by decide +kernel) ⟨by decide, by decide⟩ (Nat.le_of_ble_eq_true rfl) ⟨by decide, by decide⟩ rfl (by decide) sh_105 rfl rfl dX9_readsReceiver_47 (fun z47 Mc47 q_47 => ?_)
        obtain ⟨e_z47, g_z47⟩ := q_47
        subst g_z47
        obtain ⟨p47, ep47⟩ : ∃ q : Nat, q = if C n26.2 = 36 then n26.2 + 1 else n26.2 := ⟨_, rfl⟩
        rw [← ep47]
        refine vv_if_eq (tgt := 60) X (by rw [e_z47]; split <;> omega) dX9_readsReceiver_50 (by decide) (fun c_50 => ?_) (fun c_50 => ?_)
        · skip
          have hk47 : ¬ C n26.2 = 36 := fun q => by rw [if_pos q] at e_z47; omega
          rw [if_neg hk47] at ep47
          subst ep47
          refine vv_iconst (n := (-1)) X dX9_readsReceiver_60 ?_
          refine vv_puti (Nf := 20) (ref := (TX9 18).1) X (by decide) sh_105 rfl 18 (by decide) u_X9_readsReceiver_9 k_X9_readsReceiver_176 rfl tyX9_ok nmX9 rfl (by decide +kernel) rfl rfl dX9_readsReceiver_61 ?_
          refine vv_aload_n X 0 rfl rfl dX9_readsReceiver_64 ?_
          refine vv_iconst (n := 0) X dX9_readsReceiver_65 ?_
          refine vv_puti (Nf := 20) (ref := (TX9 19).1) X (by decide) sh_105 rfl 19 (by decide) u_X9_readsReceiver_9 k_X9_readsReceiver_179 rfl tyX9_ok nmX9 rfl (by decide +kernel) rfl rfl dX9_readsReceiver_66 ?_
          refine vv_aload_n X 0 rfl rfl dX9_readsReceiver_69 ?_
          refine vv_geti (Nf := 20) (ref := (TX9 18).1) (z := (-1)) X (by decide) sh_105 rfl 18 (by decide) u_X9_readsReceiver_9 k_X9_readsReceiver_176 rfl rfl (rfl) dX9_readsReceiver_70 ?_
          refine vv_if_lt (tgt := 121) X (by omega) dX9_readsReceiver_73 (by decide) (fun c_73 => ?_) (fun c_73 => ?_)
          · skip
            refine vv_aload_n X 0 rfl rfl dX9_readsReceiver_121 ?_
            refine vv_geti (Nf := 20) (ref := (TX9 18).1) (z := (-1)) X (by decide) sh_105 rfl 18 (by decide) u_X9_readsReceiver_9 k_X9_readsReceiver_176 rfl rfl (rfl) dX9_readsReceiver_122 ?_
            refine vv_if_lt (tgt := 132) X (by omega) dX9_readsReceiver_125 (by decide) (fun c_125 => ?_) (fun c_125 => ?_)
            · skip
              refine vv_iconst (n := 0) X dX9_readsReceiver_132 ?_
              exact vv_zret X hm (by omega) (by
                rw [show HR C i = HR1 C n2 from by rw [en2]; rfl]
                unfold HR1
                rw [if_neg (Int.not_lt.mpr c_13)]
                rw [if_pos hk19, ← en26]
                unfold HR2
                rw [if_neg (Int.not_lt.mpr c_41)]
                rw [if_neg hk47]
                exact OQ_bad (KQ_up (by decide) (by decide) (KQ_up (by decide) (by decide) (KQ_up (by decide) (by decide) (KQ_up (by decide) (by decide) (KQ_up (by decide) (by decide) (KQ_up (by decide) (by decide) (KQ_up (by decide) (by decide) (KQ_up (by decide) (by decide) (KQ_rf M))))))))) rfl rfl) dX9_readsReceiver_133
            · skip
              omega
          · skip
            omega
        · skip
          have hk47 : C n26.2 = 36 := Classical.byContradiction fun q => by rw [if_neg q] at e_z47; omega
          rw [if_pos hk47] at ep47
          have g47 := C_lt hCn (i := n26.2) (by omega)
          refine vv_aload_n X 0 rfl rfl dX9_readsReceiver_53 ?_
          refine vv_callVI (As := []) (st := [.ref (ad 105)]) (Nf := 20) X 0 (c_X9_takeNumber l D cA had (up2 (up2 (up2 (up2 (up2 (up2 M 105 14 ((n2.2 : Nat) : Int)) 105 16 n2.1) 105 14 ((p19 : Nat) : Int)) 105 14 ((n26.2 : Nat) : Int)) 105 17 n26.1) 105 14 ((p47 : Nat) : Int)) C nn p47 ⟨hS.1, hS.2.1, hS.2.2.1, rfl⟩ (by omega)) gX9_readsReceiver_X9_takeNumber rfl (by decide +kernel) ⟨by decide, by decide⟩ (Nat.le_of_ble_eq_true rfl) ⟨by decide, by decide⟩ rfl (by decide) sh_105 rfl rfl dX9_readsReceiver_54 (fun z54 Mc54 q_54 => ?_)
          obtain ⟨e_z54, g_z54⟩ := q_54
          subst g_z54
          obtain ⟨n54, en54⟩ : ∃ q, q = num C p47 := ⟨_, rfl⟩
          have l54 := num_le (C := C) (n := nn) (i := p47) hCn (by omega)
          have b54 := num_b (C := C) (n := nn) (i := p47) hCn
          have m54 := num_m (C := C) (n := nn) (i := p47) hCn
          rw [← en54] at e_z54 l54 b54 m54 ⊢
          subst e_z54
          rw [ep47] at en54
          refine vv_goto (tgt := 61) X (by decide) dX9_readsReceiver_57 ?_
          refine vv_puti (Nf := 20) (ref := (TX9 18).1) X (by decide) sh_105 rfl 18 (by decide) u_X9_readsReceiver_9 k_X9_readsReceiver_176 rfl tyX9_ok nmX9 rfl (by decide +kernel) rfl rfl dX9_readsReceiver_61 ?_
          refine vv_aload_n X 0 rfl rfl dX9_readsReceiver_64 ?_
          refine vv_iconst (n := 0) X dX9_readsReceiver_65 ?_
          refine vv_puti (Nf := 20) (ref := (TX9 19).1) X (by decide) sh_105 rfl 19 (by decide) u_X9_readsReceiver_9 k_X9_readsReceiver_179 rfl tyX9_ok nmX9 rfl (by decide +kernel) rfl rfl dX9_readsReceiver_66 ?_
          refine vv_aload_n X 0 rfl rfl dX9_readsReceiver_69 ?_
          refine vv_geti (Nf := 20) (ref := (TX9 18).1) (z := n54.1) X (by decide) sh_105 rfl 18 (by decide) u_X9_readsReceiver_9 k_X9_readsReceiver_176 rfl rfl (rfl) dX9_readsReceiver_70 ?_
          refine vv_if_lt (tgt := 121) X (by omega) dX9_readsReceiver_73 (by decide) (fun c_73 => ?_) (fun c_73 => ?_)
          · skip
            refine vv_aload_n X 0 rfl rfl dX9_readsReceiver_121 ?_
            refine vv_geti (Nf := 20) (ref := (TX9 18).1) (z := n54.1) X (by decide) sh_105 rfl 18 (by decide) u_X9_readsReceiver_9 k_X9_readsReceiver_176 rfl rfl (rfl) dX9_readsReceiver_122 ?_
            refine vv_if_lt (tgt := 132) X (by omega) dX9_readsReceiver_125 (by decide) (fun c_125 => ?_) (fun c_125 => ?_)
            · skip
              refine vv_iconst (n := 0) X dX9_readsReceiver_132 ?_
              exact vv_zret X hm (by omega) (by
                rw [show HR C i = HR1 C n2 from by rw [en2]; rfl]
                unfold HR1
                rw [if_neg (Int.not_lt.mpr c_13)]
                rw [if_pos hk19, ← en26]
                unfold HR2
                rw [if_neg (Int.not_lt.mpr c_41)]
                rw [if_pos hk47, ← en54]
                unfold HR3
                rw [if_pos c_73]
                exact OQ_bad (KQ_up (by decide) (by decide) (KQ_up (by decide) (by decide) (KQ_up (by decide) (by decide) (KQ_up (by decide) (by decide) (KQ_up (by decide) (by decide) (KQ_up (by decide) (by decide) (KQ_up (by decide) (by decide) (KQ_up (by decide) (by decide) (KQ_up (by decide) (by decide) (KQ_rf M)))))))))) rfl rfl) dX9_readsReceiver_133
            · skip
              omega
          · skip
            refine vv_aload_n X 0 rfl rfl dX9_readsReceiver_76 ?_
            refine vv_bipush (n := 33) X (by decide) dX9_readsReceiver_77 ?_
            refine vv_callVI (As := [.int (zI 33)]) (st := []) (Nf := 20) X 1 (c_X9_isNext l D cA had (up2 (up2 (up2 (up2 (up2 (up2 (up2 (up2 (up2 M 105 14 ((n2.2 : Nat) : Int)) 105 16 n2.1) 105 14 ((p19 : Nat) : Int)) 105 14 ((n26.2 : Nat) : Int)) 105 17 n26.1) 105 14 ((p47 : Nat) : Int)) 105 14 ((n54.2 : Nat) : Int)) 105 18 n54.1) 105 19 0) 33 (by omega) C nn n54.2 ⟨hS.1, hS.2.1, hS.2.2.1, rfl⟩ (by omega)) gX9_readsReceiver_X9_isNext rfl (by decide +kernel) ⟨by decide, by decide⟩ (Nat.le_of_ble_eq_true rfl) ⟨by decide, by decide⟩ rfl (by decide) sh_105 rfl rfl dX9_readsReceiver_79 (fun z79 Mc79 q_79 => ?_)
            obtain ⟨e_z79, g_z79⟩ := q_79
            subst g_z79
            obtain ⟨p79, ep79⟩ : ∃ q : Nat, q = if C n54.2 = 33 then n54.2 + 1 else n54.2 := ⟨_, rfl⟩
            rw [← ep79]
            refine vv_if_eq (tgt := 121) X (by rw [e_z79]; split <;> omega) dX9_readsReceiver_82 (by decide) (fun c_82 => ?_) (fun c_82 => ?_)
            · skip
              have hk79 : ¬ C n54.2 = 33 := fun q => by rw [if_pos q] at e_z79; omega
              rw [if_neg hk79] at ep79
              subst ep79
              refine vv_aload_n X 0 rfl rfl dX9_readsReceiver_121 ?_
              refine vv_geti (Nf := 20) (ref := (TX9 18).1) (z := n54.1) X (by decide) sh_105 rfl 18 (by decide) u_X9_readsReceiver_9 k_X9_readsReceiver_176 rfl rfl (rfl) dX9_readsReceiver_122 ?_
              refine vv_if_lt (tgt := 132) X (by omega) dX9_readsReceiver_125 (by decide) (fun c_125 => ?_) (fun c_125 => ?_)
              · skip
                omega
              · skip
                refine vv_iconst (n := 1) X dX9_readsReceiver_128 ?_
                refine vv_goto (tgt := 133) X (by decide) dX9_readsReceiver_129 ?_
                exact vv_zret X hm (by omega) (by
                  rw [show HR C i = HR1 C n2 from by rw [en2]; rfl]
                  unfold HR1
                  rw [if_neg (Int.not_lt.mpr c_13)]
                  rw [if_pos hk19, ← en26]
                  unfold HR2
                  rw [if_neg (Int.not_lt.mpr c_41)]
                  rw [if_pos hk47, ← en54]
                  unfold HR3
                  rw [if_neg (Int.not_lt.mpr c_73)]
                  rw [if_neg hk79]
                  exact OQ_ok (KQ_up (by decide) (by decide) (KQ_up (by decide) (by decide) (KQ_up (by decide) (by decide) (KQ_up (by decide) (by decide) (KQ_up (by decide) (by decide) (KQ_up (by decide) (by decide) (KQ_up (by decide) (by decide) (KQ_up (by decide) (by decide) (KQ_up (by decide) (by decide) (KQ_up (by decide) (by decide) (KQ_rf M))))))))))) rfl rfl ⟨rfl, rfl, rfl, rfl⟩) dX9_readsReceiver_133
            · skip
              have hk79 : C n54.2 = 33 := Classical.byContradiction fun q => by rw [if_neg q] at e_z79; omega
              rw [if_pos hk79] at ep79
              have g79 := C_lt hCn (i := n54.2) (by omega)
              refine vv_aload_n X 0 rfl rfl dX9_readsReceiver_85 ?_
              refine vv_bipush (n := 45) X (by decide) dX9_readsReceiver_86 ?_
              refine vv_callVI (As := [.int (zI 45)]) (st := []) (Nf := 20) X 1 (c_X9_isNext l D cA had (up2 (up2 (up2 (up2 (up2 (up2 (up2 (up2 (up2 (up2 M 105 14 ((n2.2 : Nat) : Int)) 105 16 n2.1) 105 14 ((p19 : Nat) : Int)) 105 14 ((n26.2 : Nat) : Int)) 105 17 n26.1) 105 14 ((p47 : Nat) : Int)) 105 14 ((n54.2 : Nat) : Int)) 105 18 n54.1) 105 19 0) 105 14 ((p79 : Nat) : Int)) 45 (by omega) C nn p79 ⟨hS.1, hS.2.1, hS.2.2.1, rfl⟩ (by omega)) gX9_readsReceiver_X9_isNext rfl (by decide +kernel) ⟨by decide, by decide⟩ (Nat.le_of_ble_eq_true rfl) ⟨by decide, by decide⟩ rfl (by decide) sh_105 rfl rfl dX9_readsReceiver_88 (fun z88 Mc88 q_88 => ?_)
              obtain ⟨e_z88, g_z88⟩ := q_88
              subst g_z88
              obtain ⟨p88, ep88⟩ : ∃ q : Nat, q = if C p79 = 45 then p79 + 1 else p79 := ⟨_, rfl⟩
              rw [← ep88]
              have k88 : p88 ≤ nn := by
                rw [ep88, ep79]
                split
                · next q =>
                  have := C_lt hCn (i := n54.2 + 1) (by omega)
                  omega
                · omega
              rw [ep79] at e_z88 ep88
              refine vv_istore_n (lv' := [(1, .int (zI z88)), (0, .ref (ad 105))]) X rfl (by decide) rfl dX9_readsReceiver_91 ?_
              refine vv_aload_n X 1 rfl rfl dX9_readsReceiver_92 ?_
              refine vv_callVI (As := []) (st := []) (Nf := 20) X 0 (c_X9_takeNumber l D cA had (up2 (up2 (up2 (up2 (up2 (up2 (up2 (up2 (up2 (up2 (up2 M 105 14 ((n2.2 : Nat) : Int)) 105 16 n2.1) 105 14 ((p19 : Nat) : Int)) 105 14 ((n26.2 : Nat) : Int)) 105 17 n26.1) 105 14 ((p47 : Nat) : Int)) 105 14 ((n54.2 : Nat) : Int)) 105 18 n54.1) 105 19 0) 105 14 ((p79 : Nat) : Int)) 105 14 ((p88 : Nat) : Int)) C nn p88 ⟨hS.1, hS.2.1, hS.2.2.1, rfl⟩ (by omega)) gX9_readsReceiver_X9_takeNumber rfl (by decide +kernel) ⟨by decide, by decide⟩ (Nat.le_of_ble_eq_true rfl) ⟨by decide, by decide⟩ rfl (by decide) sh_105 rfl rfl dX9_readsReceiver_93 (fun z93 Mc93 q_93 => ?_)
              obtain ⟨e_z93, g_z93⟩ := q_93
              subst g_z93
              obtain ⟨n93, en93⟩ : ∃ q, q = num C p88 := ⟨_, rfl⟩
              have l93 := num_le (C := C) (n := nn) (i := p88) hCn (by omega)
              have b93 := num_b (C := C) (n := nn) (i := p88) hCn
              have m93 := num_m (C := C) (n := nn) (i := p88) hCn
              rw [← en93] at e_z93 l93 b93 m93 ⊢
              subst e_z93
              rw [ep88] at en93
              refine vv_istore_n (lv' := [(2, .int (zI n93.1)), (1, .int (zI z88)), (0, .ref (ad 105))]) X rfl (by decide) rfl dX9_readsReceiver_96 ?_
              refine vv_aload_n X 2 rfl rfl dX9_readsReceiver_97 ?_
              refine vv_iload_n X 1 rfl rfl dX9_readsReceiver_98 ?_
              refine vv_if_eq (tgt := 107) X (by rw [e_z88]; split <;> omega) dX9_readsReceiver_99 (by decide) (fun c_99 => ?_) (fun c_99 => ?_)
              · skip
                have hk88 : ¬ C (n54.2 + 1) = 45 := fun q => by rw [if_pos q] at e_z88; omega
                refine vv_iload_n X 0 rfl rfl dX9_readsReceiver_107 ?_
                refine vv_puti (Nf := 20) (ref := (TX9 19).1) X (by decide) sh_105 rfl 19 (by decide) u_X9_readsReceiver_9 k_X9_readsReceiver_179 rfl tyX9_ok nmX9 rfl (by decide +kernel) rfl rfl dX9_readsReceiver_108 ?_
                refine vv_iload_n X 0 rfl rfl dX9_readsReceiver_111 ?_
                refine vv_if_lt (tgt := 119) X (by omega) dX9_readsReceiver_112 (by decide) (fun c_112 => ?_) (fun c_112 => ?_)
                · skip
                  refine vv_iconst (n := 0) X dX9_readsReceiver_119 ?_
                  exact vv_zret X hm (by omega) (by
                    rw [show HR C i = HR1 C n2 from by rw [en2]; rfl]
                    unfold HR1
                    rw [if_neg (Int.not_lt.mpr c_13)]
                    rw [if_pos hk19, ← en26]
                    unfold HR2
                    rw [if_neg (Int.not_lt.mpr c_41)]
                    rw [if_pos hk47, ← en54]
                    unfold HR3
                    rw [if_neg (Int.not_lt.mpr c_73)]
                    rw [if_pos hk79]
                    rw [← en93]
                    unfold HR4
                    rw [if_pos c_112]
                    exact OQ_bad (KQ_up (by decide) (by decide) (KQ_up (by decide) (by decide) (KQ_up (by decide) (by decide) (KQ_up (by decide) (by decide) (KQ_up (by decide) (by decide) (KQ_up (by decide) (by decide) (KQ_up (by decide) (by decide) (KQ_up (by decide) (by decide) (KQ_up (by decide) (by decide) (KQ_up (by decide) (by decide) (KQ_up (by decide) (by decide) (KQ_up (by decide) (by decide) (KQ_up (by decide) (by decide) (KQ_rf M)))))))))))))) rfl rfl) dX9_readsReceiver_120
                · skip
                  refine vv_iconst (n := 1) X dX9_readsReceiver_115 ?_
                  refine vv_goto (tgt := 120) X (by decide) dX9_readsReceiver_116 ?_
                  exact vv_zret X hm (by omega) (by
                    rw [show HR C i = HR1 C n2 from by rw [en2]; rfl]
                    unfold HR1
                    rw [if_neg (Int.not_lt.mpr c_13)]
                    rw [if_pos hk19, ← en26]
                    unfold HR2
                    rw [if_neg (Int.not_lt.mpr c_41)]
                    rw [if_pos hk47, ← en54]
                    unfold HR3
                    rw [if_neg (Int.not_lt.mpr c_73)]
                    rw [if_pos hk79]
                    rw [← en93]
                    unfold HR4
                    rw [if_neg (Int.not_lt.mpr c_112)]
                    exact OQ_ok (KQ_up (by decide) (by decide) (KQ_up (by decide) (by decide) (KQ_up (by decide) (by decide) (KQ_up (by decide) (by decide) (KQ_up (by decide) (by decide) (KQ_up (by decide) (by decide) (KQ_up (by decide) (by decide) (KQ_up (by decide) (by decide) (KQ_up (by decide) (by decide) (KQ_up (by decide) (by decide) (KQ_up (by decide) (by decide) (KQ_up (by decide) (by decide) (KQ_up (by decide) (by decide) (KQ_rf M)))))))))))))) rfl rfl ⟨rfl, rfl, rfl, by show _ = if C (n54.2 + 1) = 45 then _ else _; first | (rw [if_pos hk88]; rfl) | (rw [if_neg hk88]; rfl)⟩) dX9_readsReceiver_120
              · skip
                have hk88 : C (n54.2 + 1) = 45 := Classical.byContradiction fun q => by rw [if_neg q] at e_z88; omega
                refine vv_iload_n X 0 rfl rfl dX9_readsReceiver_102 ?_
                refine vv_ineg X dX9_readsReceiver_103 ?_
                refine vv_goto (tgt := 108) X (by decide) dX9_readsReceiver_104 ?_
                refine vv_puti (Nf := 20) (ref := (TX9 19).1) X (by decide) sh_105 rfl 19 (by decide) u_X9_readsReceiver_9 k_X9_readsReceiver_179 rfl tyX9_ok nmX9 rfl (by decide +kernel) rfl rfl dX9_readsReceiver_108 ?_
                refine vv_iload_n X 0 rfl rfl dX9_readsReceiver_111 ?_
                refine vv_if_lt (tgt := 119) X (by omega) dX9_readsReceiver_112 (by decide) (fun c_112 => ?_) (fun c_112 => ?_)
                · skip
                  refine vv_iconst (n := 0) X dX9_readsReceiver_119 ?_
                  exact vv_zret X hm (by omega) (by
                    rw [show HR C i = HR1 C n2 from by rw [en2]; rfl]
                    unfold HR1
                    rw [if_neg (Int.not_lt.mpr c_13)]
                    rw [if_pos hk19, ← en26]
                    unfold HR2
                    rw [if_neg (Int.not_lt.mpr c_41)]
                    rw [if_pos hk47, ← en54]
                    unfold HR3
                    rw [if_neg (Int.not_lt.mpr c_73)]
                    rw [if_pos hk79]
                    rw [← en93]
                    unfold HR4
                    rw [if_pos c_112]
                    exact OQ_bad (KQ_up (by decide) (by decide) (KQ_up (by decide) (by decide) (KQ_up (by decide) (by decide) (KQ_up (by decide) (by decide) (KQ_up (by decide) (by decide) (KQ_up (by decide) (by decide) (KQ_up (by decide) (by decide) (KQ_up (by decide) (by decide) (KQ_up (by decide) (by decide) (KQ_up (by decide) (by decide) (KQ_up (by decide) (by decide) (KQ_up (by decide) (by decide) (KQ_up (by decide) (by decide) (KQ_rf M)))))))))))))) rfl rfl) dX9_readsReceiver_120
                · skip
                  refine vv_iconst (n := 1) X dX9_readsReceiver_115 ?_
                  refine vv_goto (tgt := 120) X (by decide) dX9_readsReceiver_116 ?_
                  exact vv_zret X hm (by omega) (by
                    rw [show HR C i = HR1 C n2 from by rw [en2]; rfl]
                    unfold HR1
                    rw [if_neg (Int.not_lt.mpr c_13)]
                    rw [if_pos hk19, ← en26]
                    unfold HR2
                    rw [if_neg (Int.not_lt.mpr c_41)]
                    rw [if_pos hk47, ← en54]
                    unfold HR3
                    rw [if_neg (Int.not_lt.mpr c_73)]
                    rw [if_pos hk79]
                    rw [← en93]
                    unfold HR4
                    rw [if_neg (Int.not_lt.mpr c_112)]
                    exact OQ_ok (KQ_up (by decide) (by decide) (KQ_up (by decide) (by decide) (KQ_up (by decide) (by decide) (KQ_up (by decide) (by decide) (KQ_up (by decide) (by decide) (KQ_up (by decide) (by decide) (KQ_up (by decide) (by decide) (KQ_up (by decide) (by decide) (KQ_up (by decide) (by decide) (KQ_up (by decide) (by decide) (KQ_up (by decide) (by decide) (KQ_up (by decide) (by decide) (KQ_up (by decide) (by decide) (KQ_rf M)))))))))))))) rfl rfl ⟨rfl, rfl, rfl, by show _ = if C (n54.2 + 1) = 45 then _ else _; first | (rw [if_pos hk88]; rfl) | (rw [if_neg hk88]; rfl)⟩) dX9_readsReceiver_120
theorem u_X9_readsParts_9 : ∀ w ∈ u_ws RX9 TX9 20, w ∈ wsX9_readsParts := by decide +kernel
theorem k_X9_readsParts_72 : Cond.fieldLink yX9_readsParts.cls 72 (TX9 9).1 (TX9 9).2.1 (TX9 9).2.2.1 ∈ wsX9_readsParts := by decide +kernel
theorem k_X9_readsParts_167 : Cond.fieldLink yX9_readsParts.cls 167 (TX9 16).1 (TX9 16).2.1 (TX9 16).2.2.1 ∈ wsX9_readsParts := by decide +kernel
set_option maxRecDepth 100000 in
set_option maxHeartbeats 4000000 in
theorem c_X9_readsParts (l : Launch) (D : va_G) {ad : Nat → Nat} (cA : Nat → ClassId) (had : adok ad) (M : Mem) (C : Nat → Int) (nn i : Nat) (hS : RS M C nn i) (hin : i ≤ nn) : CtI l yX9_readsParts wsX9_readsParts 3 65 D ad cA [.ref (ad 105)] M (fun z M1 => OQ M M1 (PR C 6 i (fun _ => 0) 0) z (PD M1 (PR C 6 i (fun _ => 0) 0).2.2.2.1 (PR C 6 i (fun _ => 0) 0).2.2.2.2)) := by
  refine CtI.of (cc := cX9_readsParts) (maxL := 6) (ret := (some .boolean)) had (by decide) rfl (Nat.le_of_ble_eq_true rfl) ?_
  intro p e s m args below meth c X hm
  show VV p l e { frames := 3, cells := 0, slots := 0, locals := 65 } s m args below meth c 6 D ad cA (Afr ad s.heap.size) 0 0 (QI below args s D ad cA (fun z M1 => OQ M M1 (PR C 6 i (fun _ => 0) 0) z (PD M1 (PR C 6 i (fun _ => 0) 0).2.2.2.1 (PR C 6 i (fun _ => 0) 0).2.2.2.2))) M 0 [(0, .ref (ad 105))] []
  have hn8 := RS_0 hS
  have hCn := RS_n hS
  have hCb := RS_b hS
  have hci := hCb i
  have h6 := hS.2.2.1
  refine vv_aload_n X 0 rfl rfl dX9_readsParts_0 ?_
  refine vv_iconst (n := 0) X dX9_readsParts_1 ?_
  refine vv_puti (Nf := 20) (ref := (TX9 9).1) X (by decide) sh_105 rfl 9 (by decide) u_X9_readsParts_9 k_X9_readsParts_72 rfl tyX9_ok nmX9 rfl (by decide +kernel) rfl rfl dX9_readsParts_2 ?_
  refine vv_aload_n X 0 rfl rfl dX9_readsParts_5 ?_
  refine vv_iconst (n := 0) X dX9_readsParts_6 ?_
  refine vv_puti (Nf := 20) (ref := (TX9 16).1) X (by decide) sh_105 rfl 16 (by decide) u_X9_readsParts_9 k_X9_readsParts_167 rfl tyX9_ok nmX9 rfl (by decide +kernel) rfl rfl dX9_readsParts_7 ?_
  refine vv_iconst (n := 1) X dX9_readsParts_10 ?_
  refine vv_istore_n (lv' := [(1, .int (zI 1)), (0, .ref (ad 105))]) X rfl (by decide) rfl dX9_readsParts_11 ?_
  refine vv_iconst (n := 0) X dX9_readsParts_12 ?_
  refine vv_istore_n (lv' := [(2, .int (zI 0)), (1, .int (zI 1)), (0, .ref (ad 105))]) X rfl (by decide) rfl dX9_readsParts_13 ?_
  have loop_14 : ∀ (n : Nat) (M_14 : Mem) (k : Nat) (j : Nat) (f : Nat → Int) (a1 : Int) (a2 : Int), a2 = (k : Int) → KQ M M_14 → M_14 105 14 = (j : Int) → M_14 105 15 = M 105 15 → PD M_14 f k → j ≤ nn → ((a1 = 1 ∧ k < 6 ∧ PR C (6 - k) j f k = PR C 6 i (fun _ => 0) 0) ∨ (a1 = 0 ∧ 1 ≤ k ∧ k ≤ 6 ∧ PR C 6 i (fun _ => 0) 0 = (true, j, 115, f, k))) → 7 - k < n → VV p l e { frames := 3, cells := 0, slots := 0, locals := 65 } s m args below meth c 6 D ad cA (Afr ad s.heap.size) 0 0 (QI below args s D ad cA (fun z M1 => OQ M M1 (PR C 6 i (fun _ => 0) 0) z (PD M1 (PR C 6 i (fun _ => 0) 0).2.2.2.1 (PR C 6 i (fun _ => 0) 0).2.2.2.2))) M_14 14 [(0, .ref (ad 105)), (1, .int (zI a1)), (2, .int (zI a2))] [] := by
    intro n
    induction n with
    | zero => intro M_14 k j f a1 a2 h2 hKQ h14 h15 hPD hj hL hn; exact absurd hn (Nat.not_lt_zero _)
    | succ n ih_14 =>
      intro M_14 k j f a1 a2 h2 hKQ h14 h15 hPD hj hL hn
      have hS14 : RS M_14 C nn j := RS_kq hS hKQ h14
      have hL0 : (a1 = 1 ∧ k < 6) ∨ (a1 = 0 ∧ k ≤ 6) := by
        rcases hL with ⟨q1, q2, _⟩ | ⟨q1, q2, q3, _⟩
        · exact Or.inl ⟨q1, q2⟩
        · exact Or.inr ⟨q1, q3⟩
      have hp1 := hPD.1
      have hp2 := hPD.2.1
      refine vv_iload_n X 1 rfl rfl dX9_readsParts_14 ?_
      refine vv_if_eq (tgt := 133) X (by omega) dX9_readsParts_15 (by decide) (fun c_15 => ?_) (fun c_15 => ?_)
      · skip
        have hR : PR C 6 i (fun _ => 0) 0 = (true, j, 115, f, k) := by
          rcases hL with ⟨q, _⟩ | ⟨_, _, _, q⟩
          · omega
          · exact q
        refine vv_iconst (n := 1) X dX9_readsParts_133 ?_
        exact vv_zret X hm (by omega) (by
          rw [hR]
          exact OQ_ok hKQ h14 h15 hPD) dX9_readsParts_134
      · skip
        obtain ⟨hk, hR⟩ : k < 6 ∧ PR C (6 - k) j f k = PR C 6 i (fun _ => 0) 0 := by
          rcases hL with ⟨_, q1, q2⟩ | ⟨q, _⟩
          · exact ⟨q1, q2⟩
          · omega
        refine vv_aload_n X 0 rfl rfl dX9_readsParts_18 ?_
        refine vv_callVI (As := []) (st := []) (Nf := 20) X 0 (c_X9_takeNumber l D cA had M_14 C nn j ⟨hS14.1, hS14.2.1, hS14.2.2.1, hS14.2.2.2⟩ (by omega)) gX9_readsParts_X9_takeNumber rfl (by decide +kernel) ⟨by decide, by decide⟩ (Nat.le_of_ble_eq_true rfl) ⟨by decide, by decide⟩ rfl (by decide) sh_105 rfl rfl dX9_readsParts_19 (fun z19 Mc19 q_19 => ?_)
        obtain ⟨e_z19, g_z19⟩ := q_19
        subst g_z19
        obtain ⟨n19, en19⟩ : ∃ q, q = num C j := ⟨_, rfl⟩
        have l19 := num_le (C := C) (n := nn) (i := j) hCn (by omega)
        have b19 := num_b (C := C) (n := nn) (i := j) hCn
        have m19 := num_m (C := C) (n := nn) (i := j) hCn
        rw [← en19] at e_z19 l19 b19 m19 ⊢
        subst e_z19
        refine vv_istore_n (lv' := [(3, .int (zI n19.1)), (0, .ref (ad 105)), (1, .int (zI a1)), (2, .int (zI a2))]) X rfl (by decide) rfl dX9_readsParts_22 ?_
        refine vv_iload_n X 0 rfl rfl dX9_readsParts_23 ?_
        refine vv_if_lt (tgt := 43) X (by omega) dX9_readsParts_24 (by decide) (fun c_24 => ?_) (fun c_24 => ?_)
        · skip
          refine vv_iconst (n := (-1)) X dX9_readsParts_43 ?_
          refine vv_istore (lv' := [(4, .int (zI (-1))), (3, .int (zI n19.1)), (0, .ref (ad 105)), (1, .int (zI a1)), (2, .int (zI a2))]) X (by decide) rfl dX9_readsParts_44 ?_
          refine vv_iload X 0 rfl dX9_readsParts_46 ?_
          refine vv_if_ge (tgt := 53) X (by omega) dX9_readsParts_48 (by decide) (fun c_48 => ?_) (fun c_48 => ?_)
          · skip
            omega
          · skip
            refine vv_iconst (n := 0) X dX9_readsParts_51 ?_
            exact vv_zret X hm (by omega) (by
              rw [← hR, PR_u hk, ← en19]
              rw [if_pos c_24]
              exact OQ_bad (KQ_up (by decide) (by decide) hKQ) rfl h15) dX9_readsParts_52
        · skip
          refine vv_aload_n X 1 rfl rfl dX9_readsParts_27 ?_
          refine vv_bipush (n := 64) X (by decide) dX9_readsParts_28 ?_
          refine vv_callVI (As := [.int (zI 64)]) (st := []) (Nf := 20) X 1 (c_X9_isNext l D cA had (up2 M_14 105 14 ((n19.2 : Nat) : Int)) 64 (by omega) C nn n19.2 ⟨hS14.1, hS14.2.1, hS14.2.2.1, rfl⟩ (by omega)) gX9_readsParts_X9_isNext rfl (by decide +kernel) ⟨by decide, by decide⟩ (Nat.le_of_ble_eq_true rfl) ⟨by decide, by decide⟩ rfl (by decide) sh_105 rfl rfl dX9_readsParts_30 (fun z30 Mc30 q_30 => ?_)
          obtain ⟨e_z30, g_z30⟩ := q_30
          subst g_z30
          obtain ⟨p30, ep30⟩ : ∃ q : Nat, q = if C n19.2 = 64 then n19.2 + 1 else n19.2 := ⟨_, rfl⟩
          rw [← ep30]
          refine vv_if_eq (tgt := 43) X (by rw [e_z30]; split <;> omega) dX9_readsParts_33 (by decide) (fun c_33 => ?_) (fun c_33 => ?_)
          · skip
            have hk30 : ¬ C n19.2 = 64 := fun q => by rw [if_pos q] at e_z30; omega
            rw [if_neg hk30] at ep30
            subst ep30
            refine vv_iconst (n := (-1)) X dX9_readsParts_43 ?_
            refine vv_istore (lv' := [(4, .int (zI (-1))), (3, .int (zI n19.1)), (0, .ref (ad 105)), (1, .int (zI a1)), (2, .int (zI a2))]) X (by decide) rfl dX9_readsParts_44 ?_
            refine vv_iload X 0 rfl dX9_readsParts_46 ?_
            refine vv_if_ge (tgt := 53) X (by omega) dX9_readsParts_48 (by decide) (fun c_48 => ?_) (fun c_48 => ?_)
            · skip
              omega
            · skip
              refine vv_iconst (n := 0) X dX9_readsParts_51 ?_
              exact vv_zret X hm (by omega) (by
                rw [← hR, PR_u hk, ← en19]
                rw [if_neg (Int.not_lt.mpr c_24)]
                rw [if_neg hk30]
                exact OQ_bad (KQ_up (by decide) (by decide) (KQ_up (by decide) (by decide) hKQ)) rfl h15) dX9_readsParts_52
          · skip
            have hk30 : C n19.2 = 64 := Classical.byContradiction fun q => by rw [if_neg q] at e_z30; omega
            rw [if_pos hk30] at ep30
            have g30 := C_lt hCn (i := n19.2) (by omega)
            refine vv_aload_n X 1 rfl rfl dX9_readsParts_36 ?_
            refine vv_callVI (As := []) (st := []) (Nf := 20) X 0 (c_X9_takeNumber l D cA had (up2 (up2 M_14 105 14 ((n19.2 : Nat) : Int)) 105 14 ((p30 : Nat) : Int)) C nn p30 ⟨hS14.1, hS14.2.1, hS14.2.2.1, rfl⟩ (by omega)) gX9_readsParts_X9_takeNumber rfl (by decide +kernel) ⟨by decide, by decide⟩ (Nat.le_of_ble_eq_true rfl) ⟨by decide, by decide⟩ rfl (by decide) sh_105 rfl rfl dX9_readsParts_37 (fun z37 Mc37 q_37 => ?_)
            obtain ⟨e_z37, g_z37⟩ := q_37
            subst g_z37
            obtain ⟨n37, en37⟩ : ∃ q, q = num C p30 := ⟨_, rfl⟩
            have l37 := num_le (C := C) (n := nn) (i := p30) hCn (by omega)
            have b37 := num_b (C := C) (n := nn) (i := p30) hCn
            have m37 := num_m (C := C) (n := nn) (i := p30) hCn
            rw [← en37] at e_z37 l37 b37 m37 ⊢
            subst e_z37
            rw [ep30] at en37
            refine vv_goto (tgt := 44) X (by decide) dX9_readsParts_40 ?_
            refine vv_istore (lv' := [(4, .int (zI n37.1)), (3, .int (zI n19.1)), (0, .ref (ad 105)), (1, .int (zI a1)), (2, .int (zI a2))]) X (by decide) rfl dX9_readsParts_44 ?_
            refine vv_iload X 0 rfl dX9_readsParts_46 ?_
            refine vv_if_ge (tgt := 53) X (by omega) dX9_readsParts_48 (by decide) (fun c_48 => ?_) (fun c_48 => ?_)
            · skip
              refine vv_iload_n X 1 rfl rfl dX9_readsParts_53 ?_
              refine vv_if_le (tgt := 69) X (by omega) dX9_readsParts_54 (by decide) (fun c_54 => ?_) (fun c_54 => ?_)
              · skip
                refine vv_iconst (n := 0) X dX9_readsParts_69 ?_
                refine vv_istore (lv' := [(5, .int (zI 0)), (4, .int (zI n37.1)), (3, .int (zI n19.1)), (0, .ref (ad 105)), (1, .int (zI a1)), (2, .int (zI a2))]) X (by decide) rfl dX9_readsParts_70 ?_
                refine vv_aload_n X 3 rfl rfl dX9_readsParts_72 ?_
                refine vv_dup X rfl dX9_readsParts_73 ?_
                refine vv_geti (Nf := 20) (ref := (TX9 16).1) (z := (M_14 105 16)) X (by decide) sh_105 rfl 16 (by decide) u_X9_readsParts_9 k_X9_readsParts_167 rfl rfl (rfl) dX9_readsParts_74 ?_
                refine vv_iload X 0 rfl dX9_readsParts_77 ?_
                refine vv_if_eq (tgt := 86) X (by omega) dX9_readsParts_79 (by decide) (fun c_79 => ?_) (fun c_79 => ?_)
                · skip
                  refine vv_iconst (n := 1) X dX9_readsParts_86 ?_
                  refine vv_iadd X dX9_readsParts_87 ?_
                  refine vv_puti (Nf := 20) (ref := (TX9 16).1) X (by decide) sh_105 rfl 16 (by decide) u_X9_readsParts_9 k_X9_readsParts_167 rfl tyX9_ok nmX9 rfl (by decide +kernel) rfl rfl dX9_readsParts_88 ?_
                  refine vv_aload_n X 3 rfl rfl dX9_readsParts_91 ?_
                  refine vv_iload X 0 rfl dX9_readsParts_92 ?_
                  refine vv_if_eq (tgt := 101) X (by omega) dX9_readsParts_94 (by decide) (fun c_94 => ?_) (fun c_94 => ?_)
                  · skip
                    refine vv_iconst (n := 0) X dX9_readsParts_101 ?_
                    refine vv_iload X 1 rfl dX9_readsParts_102 ?_
                    refine vv_callVV (As := [.int (zI 0), .int (zI n37.1)]) (st := []) (Nf := 20) X 2 (c_X9_takes l D cA had (up2 (up2 (up2 (up2 M_14 105 14 ((n19.2 : Nat) : Int)) 105 14 ((p30 : Nat) : Int)) 105 14 ((n37.2 : Nat) : Int)) 105 16 ((M_14 105 16) + 1)) 0 n37.1 (gtl f k) (by omega) (by omega) (by omega) (by omega) (fun j => (gtl_b j).1) (hPD.2.2.2) (by show M_14 105 9 ≤ 7; omega)) gX9_readsParts_X9_takes rfl (by decide +kernel) ⟨by decide, by decide⟩ (Nat.le_of_ble_eq_true rfl) ⟨by decide, by decide⟩ rfl (by decide) sh_105 rfl rfl dX9_readsParts_104 (fun Mc104 q_104 => ?_)
                    obtain ⟨tE, tk, tS, tm⟩ := q_104
                    have kq104 : KQ M Mc104 := KQ_tr (KQ_up (by decide) (by decide) (KQ_up (by decide) (by decide) (KQ_up (by decide) (by decide) (KQ_up (by decide) (by decide) hKQ)))) ⟨tE, tk 2 (by decide), tk 6 (by decide)⟩
                    have hS104 : RS Mc104 C nn n37.2 := RS_kq hS kq104 (tk 14 (by decide))
                    have e104_15 : Mc104 105 15 = M 105 15 := (tk 15 (by decide)).trans h15
                    have pfe : pf C j f k = uz (uz f (2 * k) n19.1) (2 * k + 1) n37.1 := by
                      unfold pf
                      rw [← en19, ← en37]
                    have hPD2 : PD Mc104 (pf C j f k) (k + 1) := by
                      rw [pfe]
                      exact PD_s hPD (pf_v f k n19.1 n37.1) (Or.inr ⟨by omega, rfl, rfl⟩) tm (tk 16 (by decide)) tS
                    refine vv_iload_n X 5 rfl rfl dX9_readsParts_107 ?_
                    refine vv_iconst (n := 5) X dX9_readsParts_108 ?_
                    refine vv_icmp_ge (tgt := 125) X (by omega) (by omega) dX9_readsParts_109 (by decide) (fun c_109 => ?_) (fun c_109 => ?_)
                    · skip
                      refine vv_iconst (n := 0) X dX9_readsParts_125 ?_
                      refine vv_istore_n (lv' := [(1, .int (zI 0)), (5, .int (zI 0)), (4, .int (zI n37.1)), (3, .int (zI n19.1)), (0, .ref (ad 105)), (2, .int (zI a2))]) X rfl (by decide) rfl dX9_readsParts_126 ?_
                      refine vv_iinc (lv' := [(2, .int (zI (a2 + 1))), (1, .int (zI 0)), (5, .int (zI 0)), (4, .int (zI n37.1)), (3, .int (zI n19.1)), (0, .ref (ad 105))]) X 5 rfl (by decide) rfl dX9_readsParts_127 ?_
                      refine vv_goto (tgt := 14) X (by decide) dX9_readsParts_130 ?_
                      refine vv_sub (lv' := [(0, .ref (ad 105)), (1, .int (zI 0)), (2, .int (zI (a2 + 1)))]) [5, 1, 0] rfl ?_
                      exact ih_14 Mc104 (k + 1) n37.2 (pf C j f k) 0 (a2 + 1) (by omega) kq104 hS104.2.2.2 e104_15 hPD2 (by omega) (Or.inr ⟨rfl, by omega, by omega, by
                        rw [← hR, PR_u hk, ← en19, if_neg (Int.not_lt.mpr c_24), if_pos hk30, ← en37, if_neg (show ¬ n37.1 < 0 by omega), if_neg (fun w => w.1 (by omega))]⟩) (by omega)
                    · skip
                      refine vv_aload_n X 3 rfl rfl dX9_readsParts_112 ?_
                      refine vv_bipush (n := 44) X (by decide) dX9_readsParts_113 ?_
                      refine vv_callVI (As := [.int (zI 44)]) (st := []) (Nf := 20) X 1 (c_X9_isNext l D cA had Mc104 44 (by omega) C nn n37.2 ⟨hS104.1, hS104.2.1, hS104.2.2.1, hS104.2.2.2⟩ (by omega)) gX9_readsParts_X9_isNext rfl (by decide +kernel) ⟨by decide, by decide⟩ (Nat.le_of_ble_eq_true rfl) ⟨by decide, by decide⟩ rfl (by decide) sh_105 rfl rfl dX9_readsParts_115 (fun z115 Mc115 q_115 => ?_)
                      obtain ⟨e_z115, g_z115⟩ := q_115
                      subst g_z115
                      obtain ⟨p115, ep115⟩ : ∃ q : Nat, q = if C n37.2 = 44 then n37.2 + 1 else n37.2 := ⟨_, rfl⟩
                      rw [← ep115]
                      refine vv_if_eq (tgt := 125) X (by rw [e_z115]; split <;> omega) dX9_readsParts_118 (by decide) (fun c_118 => ?_) (fun c_118 => ?_)
                      · skip
                        have hk115 : ¬ C n37.2 = 44 := fun q => by rw [if_pos q] at e_z115; omega
                        rw [if_neg hk115] at ep115
                        refine vv_iconst (n := 0) X dX9_readsParts_125 ?_
                        refine vv_istore_n (lv' := [(1, .int (zI 0)), (5, .int (zI 0)), (4, .int (zI n37.1)), (3, .int (zI n19.1)), (0, .ref (ad 105)), (2, .int (zI a2))]) X rfl (by decide) rfl dX9_readsParts_126 ?_
                        refine vv_iinc (lv' := [(2, .int (zI (a2 + 1))), (1, .int (zI 0)), (5, .int (zI 0)), (4, .int (zI n37.1)), (3, .int (zI n19.1)), (0, .ref (ad 105))]) X 5 rfl (by decide) rfl dX9_readsParts_127 ?_
                        refine vv_goto (tgt := 14) X (by decide) dX9_readsParts_130 ?_
                        refine vv_sub (lv' := [(0, .ref (ad 105)), (1, .int (zI 0)), (2, .int (zI (a2 + 1)))]) [5, 1, 0] rfl ?_
                        exact ih_14 (up2 Mc104 105 14 ((p115 : Nat) : Int)) (k + 1) p115 (pf C j f k) 0 (a2 + 1) (by omega) (KQ_up (by decide) (by decide) kq104) rfl e104_15 hPD2 (by omega) (Or.inr ⟨rfl, by omega, by omega, by
                          rw [← hR, PR_u hk, ← en19, if_neg (Int.not_lt.mpr c_24), if_pos hk30, ← en37, if_neg (show ¬ n37.1 < 0 by omega), if_neg (fun w => hk115 w.2), ep115]⟩) (by omega)
                      · skip
                        have hk115 : C n37.2 = 44 := Classical.byContradiction fun q => by rw [if_neg q] at e_z115; omega
                        rw [if_pos hk115] at ep115
                        have g115 := C_lt hCn (i := n37.2) (by omega)
                        refine vv_iconst (n := 1) X dX9_readsParts_121 ?_
                        refine vv_goto (tgt := 126) X (by decide) dX9_readsParts_122 ?_
                        refine vv_istore_n (lv' := [(1, .int (zI 1)), (5, .int (zI 0)), (4, .int (zI n37.1)), (3, .int (zI n19.1)), (0, .ref (ad 105)), (2, .int (zI a2))]) X rfl (by decide) rfl dX9_readsParts_126 ?_
                        refine vv_iinc (lv' := [(2, .int (zI (a2 + 1))), (1, .int (zI 1)), (5, .int (zI 0)), (4, .int (zI n37.1)), (3, .int (zI n19.1)), (0, .ref (ad 105))]) X 5 rfl (by decide) rfl dX9_readsParts_127 ?_
                        refine vv_goto (tgt := 14) X (by decide) dX9_readsParts_130 ?_
                        refine vv_sub (lv' := [(0, .ref (ad 105)), (1, .int (zI 1)), (2, .int (zI (a2 + 1)))]) [5, 1, 0] rfl ?_
                        exact ih_14 (up2 Mc104 105 14 ((p115 : Nat) : Int)) (k + 1) p115 (pf C j f k) 1 (a2 + 1) (by omega) (KQ_up (by decide) (by decide) kq104) rfl e104_15 hPD2 (by omega) (Or.inl ⟨rfl, by omega, by
                          rw [ep115, show 6 - (k + 1) = 5 - k by omega]
                          rw [← hR, PR_u hk, ← en19, if_neg (Int.not_lt.mpr c_24), if_pos hk30, ← en37, if_neg (show ¬ n37.1 < 0 by omega), if_pos ⟨by omega, hk115⟩]⟩) (by omega)
                  · skip
                    omega
                · skip
                  omega
              · skip
                refine vv_iload X 0 rfl dX9_readsParts_57 ?_
                refine vv_callSI (As := [.int (zI n37.1)]) (st := []) X 1 (c_X9_isShare l D cA had (up2 (up2 (up2 M_14 105 14 ((n19.2 : Nat) : Int)) 105 14 ((p30 : Nat) : Int)) 105 14 ((n37.2 : Nat) : Int)) n37.1 (by omega)) gX9_readsParts_X9_isShare rfl (by decide +kernel) ⟨by decide, by decide⟩ (Nat.le_of_ble_eq_true rfl) ⟨by decide, by decide⟩ rfl rfl dX9_readsParts_59 (fun z59 Mc59 q_59 => ?_)
                obtain ⟨e_z59, g_z59⟩ := q_59
                have g_z59 := g_z59.symm
                subst g_z59
                refine vv_if_eq (tgt := 69) X (by rw [e_z59]; split <;> omega) dX9_readsParts_62 (by decide) (fun c_62 => ?_) (fun c_62 => ?_)
                · skip
                  have hsh : ¬ (0 ≤ n37.1 ∧ n37.1 ≤ 100) := fun q => by rw [if_pos q] at e_z59; omega
                  refine vv_iconst (n := 0) X dX9_readsParts_69 ?_
                  refine vv_istore (lv' := [(5, .int (zI 0)), (4, .int (zI n37.1)), (3, .int (zI n19.1)), (0, .ref (ad 105)), (1, .int (zI a1)), (2, .int (zI a2))]) X (by decide) rfl dX9_readsParts_70 ?_
                  refine vv_aload_n X 3 rfl rfl dX9_readsParts_72 ?_
                  refine vv_dup X rfl dX9_readsParts_73 ?_
                  refine vv_geti (Nf := 20) (ref := (TX9 16).1) (z := (M_14 105 16)) X (by decide) sh_105 rfl 16 (by decide) u_X9_readsParts_9 k_X9_readsParts_167 rfl rfl (rfl) dX9_readsParts_74 ?_
                  refine vv_iload X 0 rfl dX9_readsParts_77 ?_
                  refine vv_if_eq (tgt := 86) X (by omega) dX9_readsParts_79 (by decide) (fun c_79 => ?_) (fun c_79 => ?_)
                  · skip
                    refine vv_iconst (n := 1) X dX9_readsParts_86 ?_
                    refine vv_iadd X dX9_readsParts_87 ?_
                    refine vv_puti (Nf := 20) (ref := (TX9 16).1) X (by decide) sh_105 rfl 16 (by decide) u_X9_readsParts_9 k_X9_readsParts_167 rfl tyX9_ok nmX9 rfl (by decide +kernel) rfl rfl dX9_readsParts_88 ?_
                    refine vv_aload_n X 3 rfl rfl dX9_readsParts_91 ?_
                    refine vv_iload X 0 rfl dX9_readsParts_92 ?_
                    refine vv_if_eq (tgt := 101) X (by omega) dX9_readsParts_94 (by decide) (fun c_94 => ?_) (fun c_94 => ?_)
                    · skip
                      refine vv_iconst (n := 0) X dX9_readsParts_101 ?_
                      refine vv_iload X 1 rfl dX9_readsParts_102 ?_
                      refine vv_callVV (As := [.int (zI 0), .int (zI n37.1)]) (st := []) (Nf := 20) X 2 (c_X9_takes l D cA had (up2 (up2 (up2 (up2 M_14 105 14 ((n19.2 : Nat) : Int)) 105 14 ((p30 : Nat) : Int)) 105 14 ((n37.2 : Nat) : Int)) 105 16 ((M_14 105 16) + 1)) 0 n37.1 (gtl f k) (by omega) (by omega) (by omega) (by omega) (fun j => (gtl_b j).1) (hPD.2.2.2) (by show M_14 105 9 ≤ 7; omega)) gX9_readsParts_X9_takes rfl (by decide +kernel) ⟨by decide, by decide⟩ (Nat.le_of_ble_eq_true rfl) ⟨by decide, by decide⟩ rfl (by decide) sh_105 rfl rfl dX9_readsParts_104 (fun Mc104 q_104 => ?_)
                      obtain ⟨tE, tk, tS, tm⟩ := q_104
                      have kq104 : KQ M Mc104 := KQ_tr (KQ_up (by decide) (by decide) (KQ_up (by decide) (by decide) (KQ_up (by decide) (by decide) (KQ_up (by decide) (by decide) hKQ)))) ⟨tE, tk 2 (by decide), tk 6 (by decide)⟩
                      have hS104 : RS Mc104 C nn n37.2 := RS_kq hS kq104 (tk 14 (by decide))
                      have e104_15 : Mc104 105 15 = M 105 15 := (tk 15 (by decide)).trans h15
                      have pfe : pf C j f k = uz (uz f (2 * k) n19.1) (2 * k + 1) n37.1 := by
                        unfold pf
                        rw [← en19, ← en37]
                      have hPD2 : PD Mc104 (pf C j f k) (k + 1) := by
                        rw [pfe]
                        exact PD_s hPD (pf_v f k n19.1 n37.1) (Or.inr ⟨by omega, rfl, rfl⟩) tm (tk 16 (by decide)) tS
                      refine vv_iload_n X 5 rfl rfl dX9_readsParts_107 ?_
                      refine vv_iconst (n := 5) X dX9_readsParts_108 ?_
                      refine vv_icmp_ge (tgt := 125) X (by omega) (by omega) dX9_readsParts_109 (by decide) (fun c_109 => ?_) (fun c_109 => ?_)
                      · skip
                        refine vv_iconst (n := 0) X dX9_readsParts_125 ?_
                        refine vv_istore_n (lv' := [(1, .int (zI 0)), (5, .int (zI 0)), (4, .int (zI n37.1)), (3, .int (zI n19.1)), (0, .ref (ad 105)), (2, .int (zI a2))]) X rfl (by decide) rfl dX9_readsParts_126 ?_
                        refine vv_iinc (lv' := [(2, .int (zI (a2 + 1))), (1, .int (zI 0)), (5, .int (zI 0)), (4, .int (zI n37.1)), (3, .int (zI n19.1)), (0, .ref (ad 105))]) X 5 rfl (by decide) rfl dX9_readsParts_127 ?_
                        refine vv_goto (tgt := 14) X (by decide) dX9_readsParts_130 ?_
                        refine vv_sub (lv' := [(0, .ref (ad 105)), (1, .int (zI 0)), (2, .int (zI (a2 + 1)))]) [5, 1, 0] rfl ?_
                        exact ih_14 Mc104 (k + 1) n37.2 (pf C j f k) 0 (a2 + 1) (by omega) kq104 hS104.2.2.2 e104_15 hPD2 (by omega) (Or.inr ⟨rfl, by omega, by omega, by
                          rw [← hR, PR_u hk, ← en19, if_neg (Int.not_lt.mpr c_24), if_pos hk30, ← en37, if_neg (show ¬ n37.1 < 0 by omega), if_neg (fun w => w.1 (by omega))]⟩) (by omega)
                      · skip
                        refine vv_aload_n X 3 rfl rfl dX9_readsParts_112 ?_
                        refine vv_bipush (n := 44) X (by decide) dX9_readsParts_113 ?_
                        refine vv_callVI (As := [.int (zI 44)]) (st := []) (Nf := 20) X 1 (c_X9_isNext l D cA had Mc104 44 (by omega) C nn n37.2 ⟨hS104.1, hS104.2.1, hS104.2.2.1, hS104.2.2.2⟩ (by omega)) gX9_readsParts_X9_isNext rfl (by decide +kernel) ⟨by decide, by decide⟩ (Nat.le_of_ble_eq_true rfl) ⟨by decide, by decide⟩ rfl (by decide) sh_105 rfl rfl dX9_readsParts_115 (fun z115 Mc115 q_115 => ?_)
                        obtain ⟨e_z115, g_z115⟩ := q_115
                        subst g_z115
                        obtain ⟨p115, ep115⟩ : ∃ q : Nat, q = if C n37.2 = 44 then n37.2 + 1 else n37.2 := ⟨_, rfl⟩
                        rw [← ep115]
                        refine vv_if_eq (tgt := 125) X (by rw [e_z115]; split <;> omega) dX9_readsParts_118 (by decide) (fun c_118 => ?_) (fun c_118 => ?_)
                        · skip
                          have hk115 : ¬ C n37.2 = 44 := fun q => by rw [if_pos q] at e_z115; omega
                          rw [if_neg hk115] at ep115
                          refine vv_iconst (n := 0) X dX9_readsParts_125 ?_
                          refine vv_istore_n (lv' := [(1, .int (zI 0)), (5, .int (zI 0)), (4, .int (zI n37.1)), (3, .int (zI n19.1)), (0, .ref (ad 105)), (2, .int (zI a2))]) X rfl (by decide) rfl dX9_readsParts_126 ?_
                          refine vv_iinc (lv' := [(2, .int (zI (a2 + 1))), (1, .int (zI 0)), (5, .int (zI 0)), (4, .int (zI n37.1)), (3, .int (zI n19.1)), (0, .ref (ad 105))]) X 5 rfl (by decide) rfl dX9_readsParts_127 ?_
                          refine vv_goto (tgt := 14) X (by decide) dX9_readsParts_130 ?_
                          refine vv_sub (lv' := [(0, .ref (ad 105)), (1, .int (zI 0)), (2, .int (zI (a2 + 1)))]) [5, 1, 0] rfl ?_
                          exact ih_14 (up2 Mc104 105 14 ((p115 : Nat) : Int)) (k + 1) p115 (pf C j f k) 0 (a2 + 1) (by omega) (KQ_up (by decide) (by decide) kq104) rfl e104_15 hPD2 (by omega) (Or.inr ⟨rfl, by omega, by omega, by
                            rw [← hR, PR_u hk, ← en19, if_neg (Int.not_lt.mpr c_24), if_pos hk30, ← en37, if_neg (show ¬ n37.1 < 0 by omega), if_neg (fun w => hk115 w.2), ep115]⟩) (by omega)
                        · skip
                          have hk115 : C n37.2 = 44 := Classical.byContradiction fun q => by rw [if_neg q] at e_z115; omega
                          rw [if_pos hk115] at ep115
                          have g115 := C_lt hCn (i := n37.2) (by omega)
                          refine vv_iconst (n := 1) X dX9_readsParts_121 ?_
                          refine vv_goto (tgt := 126) X (by decide) dX9_readsParts_122 ?_
                          refine vv_istore_n (lv' := [(1, .int (zI 1)), (5, .int (zI 0)), (4, .int (zI n37.1)), (3, .int (zI n19.1)), (0, .ref (ad 105)), (2, .int (zI a2))]) X rfl (by decide) rfl dX9_readsParts_126 ?_
                          refine vv_iinc (lv' := [(2, .int (zI (a2 + 1))), (1, .int (zI 1)), (5, .int (zI 0)), (4, .int (zI n37.1)), (3, .int (zI n19.1)), (0, .ref (ad 105))]) X 5 rfl (by decide) rfl dX9_readsParts_127 ?_
                          refine vv_goto (tgt := 14) X (by decide) dX9_readsParts_130 ?_
                          refine vv_sub (lv' := [(0, .ref (ad 105)), (1, .int (zI 1)), (2, .int (zI (a2 + 1)))]) [5, 1, 0] rfl ?_
                          exact ih_14 (up2 Mc104 105 14 ((p115 : Nat) : Int)) (k + 1) p115 (pf C j f k) 1 (a2 + 1) (by omega) (KQ_up (by decide) (by decide) kq104) rfl e104_15 hPD2 (by omega) (Or.inl ⟨rfl, by omega, by
                            rw [ep115, show 6 - (k + 1) = 5 - k by omega]
                            rw [← hR, PR_u hk, ← en19, if_neg (Int.not_lt.mpr c_24), if_pos hk30, ← en37, if_neg (show ¬ n37.1 < 0 by omega), if_pos ⟨by omega, hk115⟩]⟩) (by omega)
                    · skip
                      omega
                  · skip
                    omega
                · skip
                  have hsh : 0 ≤ n37.1 ∧ n37.1 ≤ 100 := Classical.byContradiction fun q => by rw [if_neg q] at e_z59; omega
                  refine vv_iconst (n := 1) X dX9_readsParts_65 ?_
                  refine vv_goto (tgt := 70) X (by decide) dX9_readsParts_66 ?_
                  refine vv_istore (lv' := [(5, .int (zI 1)), (4, .int (zI n37.1)), (3, .int (zI n19.1)), (0, .ref (ad 105)), (1, .int (zI a1)), (2, .int (zI a2))]) X (by decide) rfl dX9_readsParts_70 ?_
                  refine vv_aload_n X 3 rfl rfl dX9_readsParts_72 ?_
                  refine vv_dup X rfl dX9_readsParts_73 ?_
                  refine vv_geti (Nf := 20) (ref := (TX9 16).1) (z := (M_14 105 16)) X (by decide) sh_105 rfl 16 (by decide) u_X9_readsParts_9 k_X9_readsParts_167 rfl rfl (rfl) dX9_readsParts_74 ?_
                  refine vv_iload X 0 rfl dX9_readsParts_77 ?_
                  refine vv_if_eq (tgt := 86) X (by omega) dX9_readsParts_79 (by decide) (fun c_79 => ?_) (fun c_79 => ?_)
                  · skip
                    omega
                  · skip
                    refine vv_iconst (n := 0) X dX9_readsParts_82 ?_
                    refine vv_goto (tgt := 87) X (by decide) dX9_readsParts_83 ?_
                    refine vv_iadd X dX9_readsParts_87 ?_
                    refine vv_puti (Nf := 20) (ref := (TX9 16).1) X (by decide) sh_105 rfl 16 (by decide) u_X9_readsParts_9 k_X9_readsParts_167 rfl tyX9_ok nmX9 rfl (by decide +kernel) rfl rfl dX9_readsParts_88 ?_
                    refine vv_aload_n X 3 rfl rfl dX9_readsParts_91 ?_
                    refine vv_iload X 0 rfl dX9_readsParts_92 ?_
                    refine vv_if_eq (tgt := 101) X (by omega) dX9_readsParts_94 (by decide) (fun c_94 => ?_) (fun c_94 => ?_)
                    · skip
                      omega
                    · skip
                      refine vv_iload_n X 2 rfl rfl dX9_readsParts_97 ?_
                      refine vv_goto (tgt := 102) X (by decide) dX9_readsParts_98 ?_
                      refine vv_iload X 1 rfl dX9_readsParts_102 ?_
                      refine vv_callVV (As := [.int (zI n19.1), .int (zI n37.1)]) (st := []) (Nf := 20) X 2 (c_X9_takes l D cA had (up2 (up2 (up2 (up2 M_14 105 14 ((n19.2 : Nat) : Int)) 105 14 ((p30 : Nat) : Int)) 105 14 ((n37.2 : Nat) : Int)) 105 16 ((M_14 105 16) + 0)) n19.1 n37.1 (gtl f k) (by omega) (by omega) (by omega) (by omega) (fun j => (gtl_b j).1) (hPD.2.2.2) (by show M_14 105 9 ≤ 7; omega)) gX9_readsParts_X9_takes rfl (by decide +kernel) ⟨by decide, by decide⟩ (Nat.le_of_ble_eq_true rfl) ⟨by decide, by decide⟩ rfl (by decide) sh_105 rfl rfl dX9_readsParts_104 (fun Mc104 q_104 => ?_)
                      obtain ⟨tE, tk, tS, tm⟩ := q_104
                      have kq104 : KQ M Mc104 := KQ_tr (KQ_up (by decide) (by decide) (KQ_up (by decide) (by decide) (KQ_up (by decide) (by decide) (KQ_up (by decide) (by decide) hKQ)))) ⟨tE, tk 2 (by decide), tk 6 (by decide)⟩
                      have hS104 : RS Mc104 C nn n37.2 := RS_kq hS kq104 (tk 14 (by decide))
                      have e104_15 : Mc104 105 15 = M 105 15 := (tk 15 (by decide)).trans h15
                      have pfe : pf C j f k = uz (uz f (2 * k) n19.1) (2 * k + 1) n37.1 := by
                        unfold pf
                        rw [← en19, ← en37]
                      have hPD2 : PD Mc104 (pf C j f k) (k + 1) := by
                        rw [pfe]
                        exact PD_s hPD (pf_v f k n19.1 n37.1) (Or.inl ⟨⟨by omega, by omega⟩, rfl, rfl⟩) tm (tk 16 (by decide)) tS
                      refine vv_iload_n X 5 rfl rfl dX9_readsParts_107 ?_
                      refine vv_iconst (n := 5) X dX9_readsParts_108 ?_
                      refine vv_icmp_ge (tgt := 125) X (by omega) (by omega) dX9_readsParts_109 (by decide) (fun c_109 => ?_) (fun c_109 => ?_)
                      · skip
                        refine vv_iconst (n := 0) X dX9_readsParts_125 ?_
                        refine vv_istore_n (lv' := [(1, .int (zI 0)), (5, .int (zI 1)), (4, .int (zI n37.1)), (3, .int (zI n19.1)), (0, .ref (ad 105)), (2, .int (zI a2))]) X rfl (by decide) rfl dX9_readsParts_126 ?_
                        refine vv_iinc (lv' := [(2, .int (zI (a2 + 1))), (1, .int (zI 0)), (5, .int (zI 1)), (4, .int (zI n37.1)), (3, .int (zI n19.1)), (0, .ref (ad 105))]) X 5 rfl (by decide) rfl dX9_readsParts_127 ?_
                        refine vv_goto (tgt := 14) X (by decide) dX9_readsParts_130 ?_
                        refine vv_sub (lv' := [(0, .ref (ad 105)), (1, .int (zI 0)), (2, .int (zI (a2 + 1)))]) [5, 1, 0] rfl ?_
                        exact ih_14 Mc104 (k + 1) n37.2 (pf C j f k) 0 (a2 + 1) (by omega) kq104 hS104.2.2.2 e104_15 hPD2 (by omega) (Or.inr ⟨rfl, by omega, by omega, by
                          rw [← hR, PR_u hk, ← en19, if_neg (Int.not_lt.mpr c_24), if_pos hk30, ← en37, if_neg (show ¬ n37.1 < 0 by omega), if_neg (fun w => w.1 (by omega))]⟩) (by omega)
                      · skip
                        refine vv_aload_n X 3 rfl rfl dX9_readsParts_112 ?_
                        refine vv_bipush (n := 44) X (by decide) dX9_readsParts_113 ?_
                        refine vv_callVI (As := [.int (zI 44)]) (st := []) (Nf := 20) X 1 (c_X9_isNext l D cA had Mc104 44 (by omega) C nn n37.2 ⟨hS104.1, hS104.2.1, hS104.2.2.1, hS104.2.2.2⟩ (by omega)) gX9_readsParts_X9_isNext rfl (by decide +kernel) ⟨by decide, by decide⟩ (Nat.le_of_ble_eq_true rfl) ⟨by decide, by decide⟩ rfl (by decide) sh_105 rfl rfl dX9_readsParts_115 (fun z115 Mc115 q_115 => ?_)
                        obtain ⟨e_z115, g_z115⟩ := q_115
                        subst g_z115
                        obtain ⟨p115, ep115⟩ : ∃ q : Nat, q = if C n37.2 = 44 then n37.2 + 1 else n37.2 := ⟨_, rfl⟩
                        rw [← ep115]
                        refine vv_if_eq (tgt := 125) X (by rw [e_z115]; split <;> omega) dX9_readsParts_118 (by decide) (fun c_118 => ?_) (fun c_118 => ?_)
                        · skip
                          have hk115 : ¬ C n37.2 = 44 := fun q => by rw [if_pos q] at e_z115; omega
                          rw [if_neg hk115] at ep115
                          refine vv_iconst (n := 0) X dX9_readsParts_125 ?_
                          refine vv_istore_n (lv' := [(1, .int (zI 0)), (5, .int (zI 1)), (4, .int (zI n37.1)), (3, .int (zI n19.1)), (0, .ref (ad 105)), (2, .int (zI a2))]) X rfl (by decide) rfl dX9_readsParts_126 ?_
                          refine vv_iinc (lv' := [(2, .int (zI (a2 + 1))), (1, .int (zI 0)), (5, .int (zI 1)), (4, .int (zI n37.1)), (3, .int (zI n19.1)), (0, .ref (ad 105))]) X 5 rfl (by decide) rfl dX9_readsParts_127 ?_
                          refine vv_goto (tgt := 14) X (by decide) dX9_readsParts_130 ?_
                          refine vv_sub (lv' := [(0, .ref (ad 105)), (1, .int (zI 0)), (2, .int (zI (a2 + 1)))]) [5, 1, 0] rfl ?_
                          exact ih_14 (up2 Mc104 105 14 ((p115 : Nat) : Int)) (k + 1) p115 (pf C j f k) 0 (a2 + 1) (by omega) (KQ_up (by decide) (by decide) kq104) rfl e104_15 hPD2 (by omega) (Or.inr ⟨rfl, by omega, by omega, by
                            rw [← hR, PR_u hk, ← en19, if_neg (Int.not_lt.mpr c_24), if_pos hk30, ← en37, if_neg (show ¬ n37.1 < 0 by omega), if_neg (fun w => hk115 w.2), ep115]⟩) (by omega)
                        · skip
                          have hk115 : C n37.2 = 44 := Classical.byContradiction fun q => by rw [if_neg q] at e_z115; omega
                          rw [if_pos hk115] at ep115
                          have g115 := C_lt hCn (i := n37.2) (by omega)
                          refine vv_iconst (n := 1) X dX9_readsParts_121 ?_
                          refine vv_goto (tgt := 126) X (by decide) dX9_readsParts_122 ?_
                          refine vv_istore_n (lv' := [(1, .int (zI 1)), (5, .int (zI 1)), (4, .int (zI n37.1)), (3, .int (zI n19.1)), (0, .ref (ad 105)), (2, .int (zI a2))]) X rfl (by decide) rfl dX9_readsParts_126 ?_
                          refine vv_iinc (lv' := [(2, .int (zI (a2 + 1))), (1, .int (zI 1)), (5, .int (zI 1)), (4, .int (zI n37.1)), (3, .int (zI n19.1)), (0, .ref (ad 105))]) X 5 rfl (by decide) rfl dX9_readsParts_127 ?_
                          refine vv_goto (tgt := 14) X (by decide) dX9_readsParts_130 ?_
                          refine vv_sub (lv' := [(0, .ref (ad 105)), (1, .int (zI 1)), (2, .int (zI (a2 + 1)))]) [5, 1, 0] rfl ?_
                          exact ih_14 (up2 Mc104 105 14 ((p115 : Nat) : Int)) (k + 1) p115 (pf C j f k) 1 (a2 + 1) (by omega) (KQ_up (by decide) (by decide) kq104) rfl e104_15 hPD2 (by omega) (Or.inl ⟨rfl, by omega, by
                            rw [ep115, show 6 - (k + 1) = 5 - k by omega]
                            rw [← hR, PR_u hk, ← en19, if_neg (Int.not_lt.mpr c_24), if_pos hk30, ← en37, if_neg (show ¬ n37.1 < 0 by omega), if_pos ⟨by omega, hk115⟩]⟩) (by omega)
            · skip
              refine vv_iconst (n := 0) X dX9_readsParts_51 ?_
              exact vv_zret X hm (by omega) (by
                rw [← hR, PR_u hk, ← en19]
                rw [if_neg (Int.not_lt.mpr c_24)]
                rw [if_pos hk30, ← en37]
                rw [if_pos (show n37.1 < 0 by omega)]
                exact OQ_bad (KQ_up (by decide) (by decide) (KQ_up (by decide) (by decide) (KQ_up (by decide) (by decide) hKQ))) rfl h15) dX9_readsParts_52
  refine vv_sub (lv' := [(0, .ref (ad 105)), (1, .int (zI 1)), (2, .int (zI 0))]) [2, 1, 0] rfl ?_
  exact loop_14 _ (up2 (up2 M 105 9 0) 105 16 0) 0 i (fun _ => 0) 1 0 rfl (KQ_up (by decide) (by decide) (KQ_up (by decide) (by decide) (KQ_rf M))) hS.2.2.2 rfl (PD_0 rfl rfl) hin (Or.inl ⟨rfl, by omega, rfl⟩) (Nat.lt_succ_self _)
theorem u_X9_readsOrder_9 : ∀ w ∈ u_ws RX9 TX9 20, w ∈ wsX9_readsOrder := by decide +kernel
theorem k_X9_readsOrder_155 : Cond.fieldLink yX9_readsOrder.cls 155 (TX9 14).1 (TX9 14).2.1 (TX9 14).2.2.1 ∈ wsX9_readsOrder := by decide +kernel
theorem k_X9_readsOrder_167 : Cond.fieldLink yX9_readsOrder.cls 167 (TX9 16).1 (TX9 16).2.1 (TX9 16).2.2.1 ∈ wsX9_readsOrder := by decide +kernel
theorem k_X9_readsOrder_182 : Cond.fieldLink yX9_readsOrder.cls 182 (TX9 15).1 (TX9 15).2.1 (TX9 15).2.2.1 ∈ wsX9_readsOrder := by decide +kernel
set_option maxRecDepth 100000 in
set_option maxHeartbeats 4000000 in
theorem c_X9_readsOrder (l : Launch) (D : va_G) {ad : Nat → Nat} (cA : Nat → ClassId) (had : adok ad) (M : Mem) (C : Nat → Int) (nn i : Nat) (hS : RS M C nn i) (hin : i ≤ nn) : CtI l yX9_readsOrder wsX9_readsOrder 4 90 D ad cA [.ref (ad 105)] M (fun z M1 => RR M M1 (RO C i) z) := by
  refine CtI.of (cc := cX9_readsOrder) (maxL := 1) (ret := (some .boolean)) had (by decide) rfl (Nat.le_of_ble_eq_true rfl) ?_
  intro p e s m args below meth c X hm
  show VV p l e { frames := 4, cells := 0, slots := 0, locals := 90 } s m args below meth c 1 D ad cA (Afr ad s.heap.size) 0 0 (QI below args s D ad cA (fun z M1 => RR M M1 (RO C i) z)) M 0 [(0, .ref (ad 105))] []
  have hn8 := RS_0 hS
  have hCn := RS_n hS
  have hCb := RS_b hS
  have hci := hCb i
  have h6 := hS.2.2.1
  have hcb := ch_b hci
  have hlt : C i ≠ 0 → i < nn := fun q => C_lt hCn q
  have hci1 := hCb (i + 1)
  refine vv_aload_n X 0 rfl rfl dX9_readsOrder_0 ?_
  refine vv_aload_n X 0 rfl rfl dX9_readsOrder_1 ?_
  refine vv_aload_n X 0 rfl rfl dX9_readsOrder_2 ?_
  refine vv_geti (Nf := 20) (ref := (TX9 14).1) (z := (M 105 14)) X (by decide) sh_105 rfl 14 (by decide) u_X9_readsOrder_9 k_X9_readsOrder_155 rfl rfl (rfl) dX9_readsOrder_3 ?_
  refine vv_callVI (As := [.int (zI (M 105 14))]) (st := [.ref (ad 105)]) (Nf := 20) X 1 (c_X9_character l D cA had M (M 105 14) C nn i i ⟨hS.1, hS.2.1, hS.2.2.1, hS.2.2.2⟩ (hS.2.2.2) (by omega)) gX9_readsOrder_X9_character rfl (by decide +kernel) ⟨by decide, by decide⟩ (Nat.le_of_ble_eq_true rfl) ⟨by decide, by decide⟩ rfl (by decide) sh_105 rfl rfl dX9_readsOrder_6 (fun z6 Mc6 q_6 => ?_)
  obtain ⟨e_z6, g_z6⟩ := q_6
  have g_z6 := g_z6.symm
  subst g_z6
  refine vv_puti (Nf := 20) (ref := (TX9 15).1) X (by decide) sh_105 rfl 15 (by decide) u_X9_readsOrder_9 k_X9_readsOrder_182 rfl tyX9_ok nmX9 rfl (by decide +kernel) rfl rfl dX9_readsOrder_9 ?_
  refine vv_aload_n X 0 rfl rfl dX9_readsOrder_12 ?_
  refine vv_dup X rfl dX9_readsOrder_13 ?_
  refine vv_geti (Nf := 20) (ref := (TX9 14).1) (z := (M 105 14)) X (by decide) sh_105 rfl 14 (by decide) u_X9_readsOrder_9 k_X9_readsOrder_155 rfl rfl (rfl) dX9_readsOrder_14 ?_
  refine vv_iconst (n := 1) X dX9_readsOrder_17 ?_
  refine vv_iadd X dX9_readsOrder_18 ?_
  rw [show ((M 105 14) + 1) = ((i + 1 : Nat) : Int) from by rw [hS.2.2.2]; rfl]
  refine vv_puti (Nf := 20) (ref := (TX9 14).1) X (by decide) sh_105 rfl 14 (by decide) u_X9_readsOrder_9 k_X9_readsOrder_155 rfl tyX9_ok nmX9 rfl (by decide +kernel) rfl rfl dX9_readsOrder_19 ?_
  refine vv_aload_n X 0 rfl rfl dX9_readsOrder_22 ?_
  refine vv_geti (Nf := 20) (ref := (TX9 15).1) (z := z6) X (by decide) sh_105 rfl 15 (by decide) u_X9_readsOrder_9 k_X9_readsOrder_182 rfl rfl (rfl) dX9_readsOrder_23 ?_
  by_cases c_26_0 : z6 = 45
  · skip
    refine vv_look (tgt := 81) (off := 55) X (by omega) dX9_readsOrder_26 (by decide) (by rw [c_26_0]; decide) (by decide) ?_
    have hc : C i = 45 := (ch_is (by decide)).mp (by omega)
    have hin1 := hlt (by omega)
    refine vv_aload_n X 0 rfl rfl dX9_readsOrder_81 ?_
    refine vv_aload_n X 0 rfl rfl dX9_readsOrder_82 ?_
    refine vv_iconst (n := 4) X dX9_readsOrder_83 ?_
    refine vv_callVI (As := [.int (zI 4)]) (st := [.ref (ad 105)]) (Nf := 20) X 1 (c_X9_takeDigit l D cA had (up2 (up2 M 105 15 z6) 105 14 ((i + 1 : Nat) : Int)) 4 (by omega) C nn (i + 1) ⟨hS.1, hS.2.1, hS.2.2.1, rfl⟩ (by omega)) gX9_readsOrder_X9_takeDigit rfl (by decide +kernel) ⟨by decide, by decide⟩ (Nat.le_of_ble_eq_true rfl) ⟨by decide, by decide⟩ rfl (by decide) sh_105 rfl rfl dX9_readsOrder_84 (fun z84 Mc84 q_84 => ?_)
    obtain ⟨e_z84, g_z84⟩ := q_84
    subst g_z84
    obtain ⟨p84, ep84⟩ : ∃ q : Nat, q = if 48 ≤ C (i + 1) ∧ C (i + 1) ≤ 48 + 4 then (i + 1) + 1 else (i + 1) := ⟨_, rfl⟩
    rw [← ep84]
    refine vv_puti (Nf := 20) (ref := (TX9 16).1) X (by decide) sh_105 rfl 16 (by decide) u_X9_readsOrder_9 k_X9_readsOrder_167 rfl tyX9_ok nmX9 rfl (by decide +kernel) rfl rfl dX9_readsOrder_87 ?_
    refine vv_aload_n X 0 rfl rfl dX9_readsOrder_90 ?_
    refine vv_geti (Nf := 20) (ref := (TX9 16).1) (z := z84) X (by decide) sh_105 rfl 16 (by decide) u_X9_readsOrder_9 k_X9_readsOrder_167 rfl rfl (rfl) dX9_readsOrder_91 ?_
    refine vv_if_lt (tgt := 101) X (by rw [e_z84]; split <;> omega) dX9_readsOrder_94 (by decide) (fun c_94 => ?_) (fun c_94 => ?_)
    · skip
      have hd : ¬ (48 ≤ C (i + 1) ∧ C (i + 1) ≤ 52) := fun q => by rw [if_pos (show 48 ≤ C (i + 1) ∧ C (i + 1) ≤ 48 + 4 by omega)] at e_z84; omega
      rw [if_neg (show ¬ (48 ≤ C (i + 1) ∧ C (i + 1) ≤ 48 + 4) by omega)] at ep84
      subst ep84
      refine vv_iconst (n := 0) X dX9_readsOrder_101 ?_
      exact vv_zret X hm (by omega) (by
        rw [RO_45 hc, if_neg hd]
        exact ⟨rfl, (KQ_up (by decide) (by decide) (KQ_up (by decide) (by decide) (KQ_up (by decide) (by decide) (KQ_up (by decide) (by decide) (KQ_rf M))))), rfl, fun q => by cases q⟩) dX9_readsOrder_102
    · skip
      have hd : 48 ≤ C (i + 1) ∧ C (i + 1) ≤ 52 := Classical.byContradiction fun q => by rw [if_neg (show ¬ (48 ≤ C (i + 1) ∧ C (i + 1) ≤ 48 + 4) by omega)] at e_z84; omega
      rw [if_pos (show 48 ≤ C (i + 1) ∧ C (i + 1) ≤ 48 + 4 by omega)] at ep84 e_z84
      refine vv_iconst (n := 1) X dX9_readsOrder_97 ?_
      refine vv_goto (tgt := 102) X (by decide) dX9_readsOrder_98 ?_
      exact vv_zret X hm (by omega) (by
        rw [RO_45 hc, if_pos hd]
        exact ⟨rfl, (KQ_up (by decide) (by decide) (KQ_up (by decide) (by decide) (KQ_up (by decide) (by decide) (KQ_up (by decide) (by decide) (KQ_rf M))))), congrArg (fun q : Nat => (q : Int)) ep84, fun _ => FD_1 c_26_0 (Or.inl rfl) e_z84⟩) dX9_readsOrder_102
  by_cases c_26_1 : z6 = 98
  · skip
    refine vv_look (tgt := 129) (off := 103) X (by omega) dX9_readsOrder_26 (by decide) (by rw [c_26_1]; decide) (by decide) ?_
    have hc : C i = 98 := (ch_is (by decide)).mp (by omega)
    have hin1 := hlt (by omega)
    refine vv_iconst (n := 1) X dX9_readsOrder_129 ?_
    exact vv_zret X hm (by omega) (by
      rw [RO_98 hc]
      exact ⟨rfl, (KQ_up (by decide) (by decide) (KQ_up (by decide) (by decide) (KQ_rf M))), rfl, fun _ => FD_98 c_26_1 rfl⟩) dX9_readsOrder_130
  by_cases c_26_2 : z6 = 112
  · skip
    refine vv_look (tgt := 103) (off := 77) X (by omega) dX9_readsOrder_26 (by decide) (by rw [c_26_2]; decide) (by decide) ?_
    have hc : C i = 112 := (ch_is (by decide)).mp (by omega)
    have hin1 := hlt (by omega)
    refine vv_aload_n X 0 rfl rfl dX9_readsOrder_103 ?_
    refine vv_aload_n X 0 rfl rfl dX9_readsOrder_104 ?_
    refine vv_callVI (As := []) (st := [.ref (ad 105)]) (Nf := 20) X 0 (c_X9_takeNumber l D cA had (up2 (up2 M 105 15 z6) 105 14 ((i + 1 : Nat) : Int)) C nn (i + 1) ⟨hS.1, hS.2.1, hS.2.2.1, rfl⟩ (by omega)) gX9_readsOrder_X9_takeNumber rfl (by decide +kernel) ⟨by decide, by decide⟩ (Nat.le_of_ble_eq_true rfl) ⟨by decide, by decide⟩ rfl (by decide) sh_105 rfl rfl dX9_readsOrder_105 (fun z105 Mc105 q_105 => ?_)
    obtain ⟨e_z105, g_z105⟩ := q_105
    subst g_z105
    obtain ⟨n105, en105⟩ : ∃ q, q = num C (i + 1) := ⟨_, rfl⟩
    have l105 := num_le (C := C) (n := nn) (i := (i + 1)) hCn (by omega)
    have b105 := num_b (C := C) (n := nn) (i := (i + 1)) hCn
    have m105 := num_m (C := C) (n := nn) (i := (i + 1)) hCn
    rw [← en105] at e_z105 l105 b105 m105 ⊢
    subst e_z105
    refine vv_puti (Nf := 20) (ref := (TX9 16).1) X (by decide) sh_105 rfl 16 (by decide) u_X9_readsOrder_9 k_X9_readsOrder_167 rfl tyX9_ok nmX9 rfl (by decide +kernel) rfl rfl dX9_readsOrder_108 ?_
    refine vv_aload_n X 0 rfl rfl dX9_readsOrder_111 ?_
    refine vv_geti (Nf := 20) (ref := (TX9 16).1) (z := n105.1) X (by decide) sh_105 rfl 16 (by decide) u_X9_readsOrder_9 k_X9_readsOrder_167 rfl rfl (rfl) dX9_readsOrder_112 ?_
    refine vv_if_lt (tgt := 122) X (by omega) dX9_readsOrder_115 (by decide) (fun c_115 => ?_) (fun c_115 => ?_)
    · skip
      refine vv_iconst (n := 0) X dX9_readsOrder_122 ?_
      exact vv_zret X hm (by omega) (by
        rw [RO_112 hc, ← en105, if_pos c_115]
        exact ⟨rfl, (KQ_up (by decide) (by decide) (KQ_up (by decide) (by decide) (KQ_up (by decide) (by decide) (KQ_up (by decide) (by decide) (KQ_rf M))))), rfl, fun q => by cases q⟩) dX9_readsOrder_123
    · skip
      refine vv_iconst (n := 1) X dX9_readsOrder_118 ?_
      refine vv_goto (tgt := 123) X (by decide) dX9_readsOrder_119 ?_
      exact vv_zret X hm (by omega) (by
        rw [RO_112 hc, ← en105, if_neg (Int.not_lt.mpr c_115)]
        exact ⟨rfl, (KQ_up (by decide) (by decide) (KQ_up (by decide) (by decide) (KQ_up (by decide) (by decide) (KQ_up (by decide) (by decide) (KQ_rf M))))), rfl, fun _ => FD_1 c_26_2 (Or.inr rfl) rfl⟩) dX9_readsOrder_123
  by_cases c_26_3 : z6 = 114
  · skip
    refine vv_look (tgt := 76) (off := 50) X (by omega) dX9_readsOrder_26 (by decide) (by rw [c_26_3]; decide) (by decide) ?_
    have hc : C i = 114 := (ch_is (by decide)).mp (by omega)
    have hin1 := hlt (by omega)
    refine vv_aload_n X 0 rfl rfl dX9_readsOrder_76 ?_
    refine vv_callVI (As := []) (st := []) (Nf := 20) X 0 (c_X9_readsReceiver l D cA had (up2 (up2 M 105 15 z6) 105 14 ((i + 1 : Nat) : Int)) C nn (i + 1) ⟨hS.1, hS.2.1, hS.2.2.1, rfl⟩ (by omega)) gX9_readsOrder_X9_readsReceiver rfl (by decide +kernel) ⟨by decide, by decide⟩ (Nat.le_of_ble_eq_true rfl) ⟨by decide, by decide⟩ rfl (by decide) sh_105 rfl rfl dX9_readsOrder_77 (fun z77 Mc77 q_77 => ?_)
    exact vv_zret X hm (by rw [q_77.1]; split <;> omega) (by
      obtain ⟨g1, g2, g3, g4, g5⟩ := q_77
      rw [RO_114 hc]
      exact ⟨g1, KQ_tr (KQ_up (by decide) (by decide) (KQ_up (by decide) (by decide) (KQ_rf M))) g2, g3, fun q => FD_114 (g4.trans c_26_3) (HR_l q) (g5 q)⟩) dX9_readsOrder_80
  by_cases c_26_4 : z6 = 115
  · skip
    refine vv_look (tgt := 124) (off := 98) X (by omega) dX9_readsOrder_26 (by decide) (by rw [c_26_4]; decide) (by decide) ?_
    have hc : C i = 115 := (ch_is (by decide)).mp (by omega)
    have hin1 := hlt (by omega)
    refine vv_aload_n X 0 rfl rfl dX9_readsOrder_124 ?_
    refine vv_callVI (As := []) (st := []) (Nf := 20) X 0 (c_X9_readsParts l D cA had (up2 (up2 M 105 15 z6) 105 14 ((i + 1 : Nat) : Int)) C nn (i + 1) ⟨hS.1, hS.2.1, hS.2.2.1, rfl⟩ (by omega)) gX9_readsOrder_X9_readsParts rfl (by decide +kernel) ⟨by decide, by decide⟩ (Nat.le_of_ble_eq_true rfl) ⟨by decide, by decide⟩ rfl (by decide) sh_105 rfl rfl dX9_readsOrder_125 (fun z125 Mc125 q_125 => ?_)
    exact vv_zret X hm (by rw [q_125.1]; split <;> omega) (by
      obtain ⟨g1, g2, g3, g4, g5⟩ := q_125
      rw [RO_115 hc]
      exact ⟨g1, KQ_tr (KQ_up (by decide) (by decide) (KQ_up (by decide) (by decide) (KQ_rf M))) g2, g3, fun q => FD_115 (g4.trans c_26_4) (PR_l q) (g5 q)⟩) dX9_readsOrder_128
  refine vv_look (tgt := 131) (off := 105) X (by omega) dX9_readsOrder_26 (by decide) (by simp only [Op.lookupswitch.offset_cons, Op.lookupswitch.offset]; (repeat' split) <;> omega) (by decide) ?_
  refine vv_aload_n X 0 rfl rfl dX9_readsOrder_131 ?_
  refine vv_dup X rfl dX9_readsOrder_132 ?_
  refine vv_geti (Nf := 20) (ref := (TX9 14).1) (z := ((i + 1 : Nat) : Int)) X (by decide) sh_105 rfl 14 (by decide) u_X9_readsOrder_9 k_X9_readsOrder_155 rfl rfl (rfl) dX9_readsOrder_133 ?_
  refine vv_iconst (n := 1) X dX9_readsOrder_136 ?_
  refine vv_isub X dX9_readsOrder_137 ?_
  rw [show (((i + 1 : Nat) : Int) - 1) = ((i : Nat) : Int) from by omega]
  refine vv_puti (Nf := 20) (ref := (TX9 14).1) X (by decide) sh_105 rfl 14 (by decide) u_X9_readsOrder_9 k_X9_readsOrder_155 rfl tyX9_ok nmX9 rfl (by decide +kernel) rfl rfl dX9_readsOrder_138 ?_
  refine vv_iconst (n := 0) X dX9_readsOrder_141 ?_
  exact vv_zret X hm (by omega) (by
    have hne : ∀ w : Int, 1 ≤ w → z6 ≠ w → C i ≠ w := fun w w1 w2 w3 => w2 (e_z6.trans ((ch_is w1).mpr w3))
    rw [RO_no (hne _ (by decide) c_26_3) (hne _ (by decide) c_26_0) (hne _ (by decide) c_26_2) (hne _ (by decide) c_26_4) (hne _ (by decide) c_26_1)]
    exact ⟨rfl, (KQ_up (by decide) (by decide) (KQ_up (by decide) (by decide) (KQ_up (by decide) (by decide) (KQ_rf M)))), rfl, fun q => by cases q⟩) dX9_readsOrder_142
theorem u_X9_findFault_9 : ∀ w ∈ u_ws RX9 TX9 20, w ∈ wsX9_findFault := by decide +kernel
theorem k_X9_findFault_150 : Cond.fieldLink yX9_findFault.cls 150 (TX9 6).1 (TX9 6).2.1 (TX9 6).2.2.1 ∈ wsX9_findFault := by decide +kernel
theorem k_X9_findFault_155 : Cond.fieldLink yX9_findFault.cls 155 (TX9 14).1 (TX9 14).2.1 (TX9 14).2.2.1 ∈ wsX9_findFault := by decide +kernel
set_option maxRecDepth 100000 in
set_option maxHeartbeats 4000000 in
theorem c_X9_findFault (l : Launch) (D : va_G) {ad : Nat → Nat} (cA : Nat → ClassId) (had : adok ad) (M : Mem) (C : Nat → Int) (nn : Nat) (hS0 : RS0 M C nn) : CtI l yX9_findFault wsX9_findFault 5 110 D ad cA [.ref (ad 105)] M (fun z M1 => z = FT C nn 80 0 ∧ KQ M M1) := by
  refine CtI.of (cc := cX9_findFault) (maxL := 1) (ret := (some .int)) had (by decide) rfl (Nat.le_of_ble_eq_true rfl) ?_
  intro p e s m args below meth c X hm
  show VV p l e { frames := 5, cells := 0, slots := 0, locals := 110 } s m args below meth c 1 D ad cA (Afr ad s.heap.size) 0 0 (QI below args s D ad cA (fun z M1 => z = FT C nn 80 0 ∧ KQ M M1)) M 0 [(0, .ref (ad 105))] []
  obtain ⟨hCn, hn8⟩ := RS0_n hS0
  have hCb : ∀ j, 0 ≤ C j ∧ C j ≤ 126 := fun j => by rw [← hS0.1]; exact rC_b hS0.2.1 j
  refine vv_aload_n X 0 rfl rfl dX9_findFault_0 ?_
  refine vv_iconst (n := 0) X dX9_findFault_1 ?_
  refine vv_puti (Nf := 20) (ref := (TX9 14).1) X (by decide) sh_105 rfl 14 (by decide) u_X9_findFault_9 k_X9_findFault_155 rfl tyX9_ok nmX9 rfl (by decide +kernel) rfl rfl dX9_findFault_2 ?_
  have loop_5 : ∀ (n : Nat) (M_5 : Mem) (k : Nat) (j : Nat), KQ M M_5 → M_5 105 14 = (j : Int) → j ≤ nn → 2 * k ≤ j → FT C nn (80 - k) j = FT C nn 80 0 → nn - j < n → VV p l e { frames := 5, cells := 0, slots := 0, locals := 110 } s m args below meth c 1 D ad cA (Afr ad s.heap.size) 0 0 (QI below args s D ad cA (fun z M1 => z = FT C nn 80 0 ∧ KQ M M1)) M_5 5 [(0, .ref (ad 105))] [] := by
    intro n
    induction n with
    | zero => intro M_5 k j hKQ h14 hj hjk hR hn; exact absurd hn (Nat.not_lt_zero _)
    | succ n ih_5 =>
      intro M_5 k j hKQ h14 hj hjk hR hn
      have hS5 : RS M_5 C nn j := RS_k0 hS0 hKQ h14
      have hw5 := RO_W (C := C) (n := nn) (i := j) hCn hj
      have hw6 := hw5.1.1
      refine vv_aload_n X 0 rfl rfl dX9_findFault_5 ?_
      refine vv_callVI (As := []) (st := []) (Nf := 20) X 0 (c_X9_readsOrder l D cA had M_5 C nn j ⟨hS5.1, hS5.2.1, hS5.2.2.1, hS5.2.2.2⟩ (by omega)) gX9_findFault_X9_readsOrder rfl (by decide +kernel) ⟨by decide, by decide⟩ (Nat.le_of_ble_eq_true rfl) ⟨by decide, by decide⟩ rfl (by decide) sh_105 rfl rfl dX9_findFault_6 (fun z6 Mc6 q_6 => ?_)
      obtain ⟨v1, v2, v3, v4⟩ := q_6
      have kq6 := KQ_tr hKQ v2
      have hS6 : RS Mc6 C nn (RO C j).2.1 := RS_k0 hS0 kq6 v3
      have e66 : Mc6 105 6 = (nn : Int) := hS6.2.2.1
      refine vv_if_ne (tgt := 17) X (by rw [v1]; split <;> omega) dX9_findFault_9 (by decide) (fun c_9 => ?_) (fun c_9 => ?_)
      · skip
        have hyes : (RO C j).1 = true := Classical.byContradiction fun q => by rw [if_neg q] at v1; omega
        have hpos := hw5.2 hyes
        refine vv_aload_n X 0 rfl rfl dX9_findFault_17 ?_
        refine vv_geti (Nf := 20) (ref := (TX9 14).1) (z := (Mc6 105 14)) X (by decide) sh_105 rfl 14 (by decide) u_X9_findFault_9 k_X9_findFault_155 rfl rfl (rfl) dX9_findFault_18 ?_
        refine vv_aload_n X 0 rfl rfl dX9_findFault_21 ?_
        refine vv_geti (Nf := 20) (ref := (TX9 6).1) (z := (Mc6 105 6)) X (by decide) sh_105 rfl 6 (by decide) u_X9_findFault_9 k_X9_findFault_150 rfl rfl (rfl) dX9_findFault_22 ?_
        refine vv_icmp_ne (tgt := 31) X (by omega) (by omega) dX9_findFault_25 (by decide) (fun c_25 => ?_) (fun c_25 => ?_)
        · skip
          refine vv_aload_n X 0 rfl rfl dX9_findFault_31 ?_
          refine vv_bipush (n := 59) X (by decide) dX9_findFault_32 ?_
          refine vv_callVI (As := [.int (zI 59)]) (st := []) (Nf := 20) X 1 (c_X9_isNext l D cA had Mc6 59 (by omega) C nn ((RO C j).2.1) ⟨hS6.1, hS6.2.1, hS6.2.2.1, hS6.2.2.2⟩ (by omega)) gX9_findFault_X9_isNext rfl (by decide +kernel) ⟨by decide, by decide⟩ (Nat.le_of_ble_eq_true rfl) ⟨by decide, by decide⟩ rfl (by decide) sh_105 rfl rfl dX9_findFault_34 (fun z34 Mc34 q_34 => ?_)
          obtain ⟨e_z34, g_z34⟩ := q_34
          subst g_z34
          obtain ⟨p34, ep34⟩ : ∃ q : Nat, q = if C ((RO C j).2.1) = 59 then ((RO C j).2.1) + 1 else ((RO C j).2.1) := ⟨_, rfl⟩
          rw [← ep34]
          refine vv_if_ne (tgt := 5) X (by rw [e_z34]; split <;> omega) dX9_findFault_37 (by decide) (fun c_37 => ?_) (fun c_37 => ?_)
          · skip
            have hk34 : C (RO C j).2.1 = 59 := Classical.byContradiction fun q => by rw [if_neg q] at e_z34; omega
            rw [if_pos hk34] at ep34
            refine vv_sub (lv' := [(0, .ref (ad 105))]) [0] rfl ?_
            exact ih_5 (up2 Mc6 105 14 ((p34 : Nat) : Int)) (k + 1) p34 (KQ_up (by decide) (by decide) kq6) rfl (by omega) (by omega) (by
              rw [ep34, show 80 - (k + 1) = 79 - k by omega]
              rw [← hR, FT_u (show k < 80 by omega), if_pos hyes, if_neg (show ¬ nn ≤ (RO C j).2.1 by omega), if_pos hk34]) (by omega)
          · skip
            have hk34 : ¬ C (RO C j).2.1 = 59 := fun q => by rw [if_pos q] at e_z34; omega
            rw [if_neg hk34] at ep34
            refine vv_aload_n X 0 rfl rfl dX9_findFault_40 ?_
            refine vv_geti (Nf := 20) (ref := (TX9 14).1) (z := ((p34 : Nat) : Int)) X (by decide) sh_105 rfl 14 (by decide) u_X9_findFault_9 k_X9_findFault_155 rfl rfl (rfl) dX9_findFault_41 ?_
            exact vv_iret X hm (⟨by
              rw [← hR, FT_u (show k < 80 by omega), if_pos hyes, if_neg (show ¬ nn ≤ (RO C j).2.1 by omega), if_neg hk34, ep34], (KQ_up (by decide) (by decide) kq6)⟩) dX9_findFault_44
        · skip
          refine vv_bipush (n := (-6)) X (by decide) dX9_findFault_28 ?_
          exact vv_iret X hm (⟨by
            rw [← hR, FT_u (show k < 80 by omega), if_pos hyes, if_pos (show nn ≤ (RO C j).2.1 by omega)], kq6⟩) dX9_findFault_30
      · skip
        have hno : ¬ (RO C j).1 = true := fun q => by rw [if_pos q] at v1; omega
        refine vv_aload_n X 0 rfl rfl dX9_findFault_12 ?_
        refine vv_geti (Nf := 20) (ref := (TX9 14).1) (z := (Mc6 105 14)) X (by decide) sh_105 rfl 14 (by decide) u_X9_findFault_9 k_X9_findFault_155 rfl rfl (rfl) dX9_findFault_13 ?_
        exact vv_iret X hm (⟨by
          rw [← hR, FT_u (show k < 80 by omega), if_neg hno]
          exact v3, kq6⟩) dX9_findFault_16
  refine vv_sub (lv' := [(0, .ref (ad 105))]) [0] rfl ?_
  exact loop_5 _ (up2 M 105 14 0) 0 0 (KQ_up (by decide) (by decide) (KQ_rf M)) rfl (by omega) (by omega) rfl (Nat.lt_succ_self _)
set_option maxRecDepth 100000 in
set_option maxHeartbeats 4000000 in
theorem c_X9_fault (l : Launch) (D : va_G) {ad : Nat → Nat} (cA : Nat → ClassId) (had : adok ad) (M : Mem) (C : Nat → Int) (nn : Nat) (hS0 : RS0 M C nn) : CtI l yX9_fault wsX9_fault 6 130 D ad cA [.ref (ad 105)] M (fun z M1 => z = FT C nn 80 0 ∧ KQ M M1) := by
  refine CtI.of (cc := cX9_fault) (maxL := 1) (ret := (some .int)) had (by decide) rfl (Nat.le_of_ble_eq_true rfl) ?_
  intro p e s m args below meth c X hm
  show VV p l e { frames := 6, cells := 0, slots := 0, locals := 130 } s m args below meth c 1 D ad cA (Afr ad s.heap.size) 0 0 (QI below args s D ad cA (fun z M1 => z = FT C nn 80 0 ∧ KQ M M1)) M 0 [(0, .ref (ad 105))] []
  refine vv_aload_n X 0 rfl rfl dX9_fault_0 ?_
  refine vv_callVI (As := []) (st := []) (Nf := 20) X 0 (c_X9_findFault l D cA had M C nn (hS0)) gX9_fault_X9_findFault rfl (by decide +kernel) ⟨by decide, by decide⟩ (Nat.le_of_ble_eq_true rfl) ⟨by decide, by decide⟩ rfl (by decide) sh_105 rfl rfl dX9_fault_1 (fun z1 Mc1 q_1 => ?_)
  exact vv_iret X hm (q_1) dX9_fault_4
