set_option maxRecDepth 100000 in
set_option maxHeartbeats 4000000 in
theorem c_X8_isPosterior (l : Launch) (D : va_G) {ad : Nat → Nat} (cA : Nat → ClassId) (had : adok ad) (M : Mem) (r : Int) (hr : -2147483648 ≤ r ∧ r ≤ 2147483647) : CtI l yX8_isPosterior wsX8_isPosterior 0 0 D ad cA [.int (zI r)] M (fun z M1 => z = (if 0 ≤ r ∧ r ≤ 100 then 1 else 0) ∧ M1 = M) := by
  refine CtI.of (cc := cX8_isPosterior) (maxL := 1) (ret := (some .boolean)) had (by decide) rfl (Nat.le_of_ble_eq_true rfl) ?_
  intro p e s m args below meth c X hm
  show VV p l e { frames := 0, cells := 0, slots := 0, locals := 0 } s m args below meth c 1 D ad cA (Afr ad s.heap.size) 0 0 (QI below args s D ad cA (fun z M1 => z = (if 0 ≤ r ∧ r ≤ 100 then 1 else 0) ∧ M1 = M)) M 0 [(0, .int (zI r))] []
  refine vv_iload_n X 0 rfl rfl dX8_isPosterior_0 ?_
  refine vv_if_lt (tgt := 14) X (by omega) dX8_isPosterior_1 (by decide) (fun c_1 => ?_) (fun c_1 => ?_)
  · skip
    refine vv_iconst (n := 0) X dX8_isPosterior_14 ?_
    exact vv_zret X hm (by omega) (⟨by first | rw [if_pos (by omega)] | rw [if_neg (by omega)], rfl⟩) dX8_isPosterior_15
  · skip
    refine vv_iload_n X 0 rfl rfl dX8_isPosterior_4 ?_
    refine vv_bipush (n := 100) X (by decide) dX8_isPosterior_5 ?_
    refine vv_icmp_gt (tgt := 14) X (by omega) (by omega) dX8_isPosterior_7 (by decide) (fun c_7 => ?_) (fun c_7 => ?_)
    · skip
      refine vv_iconst (n := 0) X dX8_isPosterior_14 ?_
      exact vv_zret X hm (by omega) (⟨by first | rw [if_pos (by omega)] | rw [if_neg (by omega)], rfl⟩) dX8_isPosterior_15
    · skip
      refine vv_iconst (n := 1) X dX8_isPosterior_10 ?_
      refine vv_goto (tgt := 15) X (by decide) dX8_isPosterior_11 ?_
      exact vv_zret X hm (by omega) (⟨by first | rw [if_pos (by omega)] | rw [if_neg (by omega)], rfl⟩) dX8_isPosterior_15
set_option maxRecDepth 100000 in
set_option maxHeartbeats 4000000 in
theorem c_X8_isHalfOfFraction (l : Launch) (D : va_G) {ad : Nat → Nat} (cA : Nat → ClassId) (had : adok ad) (M : Mem) (r : Int) (hr : -2147483648 ≤ r ∧ r ≤ 2147483647) : CtI l yX8_isHalfOfFraction wsX8_isHalfOfFraction 0 0 D ad cA [.int (zI r)] M (fun z M1 => z = (if r = 0 ∨ r = 1 then 1 else 0) ∧ M1 = M) := by
  refine CtI.of (cc := cX8_isHalfOfFraction) (maxL := 1) (ret := (some .boolean)) had (by decide) rfl (Nat.le_of_ble_eq_true rfl) ?_
  intro p e s m args below meth c X hm
  show VV p l e { frames := 0, cells := 0, slots := 0, locals := 0 } s m args below meth c 1 D ad cA (Afr ad s.heap.size) 0 0 (QI below args s D ad cA (fun z M1 => z = (if r = 0 ∨ r = 1 then 1 else 0) ∧ M1 = M)) M 0 [(0, .int (zI r))] []
  refine vv_iload_n X 0 rfl rfl dX8_isHalfOfFraction_0 ?_
  refine vv_if_eq (tgt := 9) X (by omega) dX8_isHalfOfFraction_1 (by decide) (fun c_1 => ?_) (fun c_1 => ?_)
  · skip
    refine vv_iconst (n := 1) X dX8_isHalfOfFraction_9 ?_
    refine vv_goto (tgt := 14) X (by decide) dX8_isHalfOfFraction_10 ?_
    exact vv_zret X hm (by omega) (⟨by first | rw [if_pos (by omega)] | rw [if_neg (by omega)], rfl⟩) dX8_isHalfOfFraction_14
  · skip
    refine vv_iload_n X 0 rfl rfl dX8_isHalfOfFraction_4 ?_
    refine vv_iconst (n := 1) X dX8_isHalfOfFraction_5 ?_
    refine vv_icmp_ne (tgt := 13) X (by omega) (by omega) dX8_isHalfOfFraction_6 (by decide) (fun c_6 => ?_) (fun c_6 => ?_)
    · skip
      refine vv_iconst (n := 0) X dX8_isHalfOfFraction_13 ?_
      exact vv_zret X hm (by omega) (⟨by first | rw [if_pos (by omega)] | rw [if_neg (by omega)], rfl⟩) dX8_isHalfOfFraction_14
    · skip
      refine vv_iconst (n := 1) X dX8_isHalfOfFraction_9 ?_
      refine vv_goto (tgt := 14) X (by decide) dX8_isHalfOfFraction_10 ?_
      exact vv_zret X hm (by omega) (⟨by first | rw [if_pos (by omega)] | rw [if_neg (by omega)], rfl⟩) dX8_isHalfOfFraction_14
set_option maxRecDepth 100000 in
set_option maxHeartbeats 4000000 in
theorem c_X8_commonDivisor (l : Launch) (D : va_G) {ad : Nat → Nat} (cA : Nat → ClassId) (had : adok ad) (M : Mem) (a b : Int) (ha : -1073741824 ≤ a ∧ a ≤ 1073741824) (hb : -1073741824 ≤ b ∧ b ≤ 1073741824) : CtI l yX8_commonDivisor wsX8_commonDivisor 1 21 D ad cA [.int (zI a), .int (zI b)] M (fun z M1 => z = (Int.gcd a b : Int) ∧ M1 = M) := by
  refine CtI.of (cc := cX8_commonDivisor) (maxL := 6) (ret := (some .int)) had (by decide) rfl (Nat.le_of_ble_eq_true rfl) ?_
  intro p e s m args below meth c X hm
  show VV p l e { frames := 1, cells := 0, slots := 0, locals := 21 } s m args below meth c 6 D ad cA (Afr ad s.heap.size) 0 0 (QI below args s D ad cA (fun z M1 => z = (Int.gcd a b : Int) ∧ M1 = M)) M 0 [(0, .int (zI a)), (1, .int (zI b))] []
  refine vv_iload_n X 0 rfl rfl dX8_commonDivisor_0 ?_
  refine vv_mabs X (by omega) (by decide +kernel) (by decide +kernel) (by decide +kernel) (by decide +kernel) (by decide) (Nat.le_of_ble_eq_true rfl) ⟨by decide, by decide⟩ dX8_commonDivisor_1 ?_
  refine vv_istore_n (lv' := [(2, .int (zI (if 0 ≤ a then a else -a))), (0, .int (zI a)), (1, .int (zI b))]) X rfl (by decide) rfl dX8_commonDivisor_4 ?_
  refine vv_iload_n X 2 rfl rfl dX8_commonDivisor_5 ?_
  refine vv_mabs X (by omega) (by decide +kernel) (by decide +kernel) (by decide +kernel) (by decide +kernel) (by decide) (Nat.le_of_ble_eq_true rfl) ⟨by decide, by decide⟩ dX8_commonDivisor_6 ?_
  refine vv_istore_n (lv' := [(3, .int (zI (if 0 ≤ b then b else -b))), (2, .int (zI (if 0 ≤ a then a else -a))), (0, .int (zI a)), (1, .int (zI b))]) X rfl (by decide) rfl dX8_commonDivisor_9 ?_
  refine vv_iconst (n := 0) X dX8_commonDivisor_10 ?_
  refine vv_istore (lv' := [(4, .int (zI 0)), (3, .int (zI (if 0 ≤ b then b else -b))), (2, .int (zI (if 0 ≤ a then a else -a))), (0, .int (zI a)), (1, .int (zI b))]) X (by decide) rfl dX8_commonDivisor_11 ?_
  have loop_13 : ∀ (n : Nat)  (k : Nat) (a2 : Int) (a3 : Int) (a4 : Int), a4 = (k : Int) → k ≤ 64 → GI a b k a2 a3 → 64 - k < n → VV p l e { frames := 1, cells := 0, slots := 0, locals := 21 } s m args below meth c 6 D ad cA (Afr ad s.heap.size) 0 0 (QI below args s D ad cA (fun z M1 => z = (Int.gcd a b : Int) ∧ M1 = M)) M 13 [(2, .int (zI a2)), (3, .int (zI a3)), (4, .int (zI a4))] [] := by
    intro n
    induction n with
    | zero => intro k a2 a3 a4 h4 hk hG hn; exact absurd hn (Nat.not_lt_zero _)
    | succ n ih_13 =>
      intro k a2 a3 a4 h4 hk hG hn
      have g1 := hG.1
      have g2 := hG.2.1
      have g3 := hG.2.2.1
      have g4 := hG.2.2.2.1
      refine vv_iload X 2 rfl dX8_commonDivisor_13 ?_
      refine vv_bipush (n := 64) X (by decide) dX8_commonDivisor_15 ?_
      refine vv_icmp_ge (tgt := 40) X (by omega) (by omega) dX8_commonDivisor_17 (by decide) (fun c_17 => ?_) (fun c_17 => ?_)
      · skip
        refine vv_iload_n X 0 rfl rfl dX8_commonDivisor_40 ?_
        exact vv_iret X hm (⟨GI_e hG (by omega), rfl⟩) dX8_commonDivisor_41
      · skip
        refine vv_iload_n X 1 rfl rfl dX8_commonDivisor_20 ?_
        refine vv_if_le (tgt := 40) X (by omega) dX8_commonDivisor_21 (by decide) (fun c_21 => ?_) (fun c_21 => ?_)
        · skip
          refine vv_iload_n X 0 rfl rfl dX8_commonDivisor_40 ?_
          exact vv_iret X hm (⟨GI_e hG (by omega), rfl⟩) dX8_commonDivisor_41
        · skip
          refine vv_iload_n X 0 rfl rfl dX8_commonDivisor_24 ?_
          refine vv_iload_n X 1 rfl rfl dX8_commonDivisor_25 ?_
          refine vv_irem X (by omega) (by omega) (by omega) dX8_commonDivisor_26 ?_
          refine vv_istore (lv' := [(5, .int (zI (Int.tmod a2 a3))), (2, .int (zI a2)), (3, .int (zI a3)), (4, .int (zI a4))]) X (by decide) rfl dX8_commonDivisor_27 ?_
          refine vv_iload_n X 2 rfl rfl dX8_commonDivisor_29 ?_
          refine vv_istore_n (lv' := [(2, .int (zI a3)), (5, .int (zI (Int.tmod a2 a3))), (3, .int (zI a3)), (4, .int (zI a4))]) X rfl (by decide) rfl dX8_commonDivisor_30 ?_
          refine vv_iload X 1 rfl dX8_commonDivisor_31 ?_
          refine vv_istore_n (lv' := [(3, .int (zI (Int.tmod a2 a3))), (2, .int (zI a3)), (5, .int (zI (Int.tmod a2 a3))), (4, .int (zI a4))]) X rfl (by decide) rfl dX8_commonDivisor_33 ?_
          refine vv_iinc (lv' := [(4, .int (zI (a4 + 1))), (3, .int (zI (Int.tmod a2 a3))), (2, .int (zI a3)), (5, .int (zI (Int.tmod a2 a3)))]) X 3 rfl (by decide) rfl dX8_commonDivisor_34 ?_
          refine vv_goto (tgt := 13) X (by decide) dX8_commonDivisor_37 ?_
          refine vv_sub (lv' := [(2, .int (zI a3)), (3, .int (zI (Int.tmod a2 a3))), (4, .int (zI (a4 + 1)))]) [2, 1, 0] rfl ?_
          exact ih_13 (k + 1) a3 (Int.tmod a2 a3) (a4 + 1) (by omega) (by omega) (GI_s hG (by omega)) (by omega)
  refine vv_sub (lv' := [(2, .int (zI (if 0 ≤ a then a else -a))), (3, .int (zI (if 0 ≤ b then b else -b))), (4, .int (zI 0))]) [2, 1, 0] rfl ?_
  exact loop_13 _ 0 (if 0 ≤ a then a else -a) (if 0 ≤ b then b else -b) 0 rfl (by omega) (GI_0 ha hb rfl rfl) (Nat.lt_succ_self _)
theorem u_X1_become_103_1 : ∀ w ∈ u_ws RX1 TX1 2, w ∈ wsX1_become := by decide +kernel
theorem k_X1_become_103_7 : Cond.fieldLink yX1_become.cls 7 (TX1 0).1 (TX1 0).2.1 (TX1 0).2.2.1 ∈ wsX1_become := by decide +kernel
theorem k_X1_become_103_13 : Cond.fieldLink yX1_become.cls 13 (TX1 1).1 (TX1 1).2.1 (TX1 1).2.2.1 ∈ wsX1_become := by decide +kernel
set_option maxRecDepth 100000 in
set_option maxHeartbeats 4000000 in
theorem c_X1_become_103 (l : Launch) (D : va_G) {ad : Nat → Nat} (cA : Nat → ClassId) (had : adok ad) (M : Mem) (a b : Int) (ha : -1073741824 ≤ a ∧ a ≤ 1073741824) (hb : b ≤ 1073741824) (hb0 : 0 < b) : CtV l yX1_become wsX1_become 2 46 D ad cA [.ref (ad 103), .int (zI a), .int (zI b)] M (fun M1 => M1 = up2 (up2 M 103 0 (frA a b)) 103 1 (frB a b)) := by
  refine CtV.of (cc := cX1_become) (maxL := 4) (ret := none) had (by decide) rfl (Nat.le_of_ble_eq_true rfl) ?_
  intro p e s m args below meth c X hm
  show VV p l e { frames := 2, cells := 0, slots := 0, locals := 46 } s m args below meth c 4 D ad cA (Afr ad s.heap.size) 0 0 (QV below args s D ad cA (fun M1 => M1 = up2 (up2 M 103 0 (frA a b)) 103 1 (frB a b))) M 0 [(0, .ref (ad 103)), (1, .int (zI a)), (2, .int (zI b))] []
  refine vv_iload_n X 1 rfl rfl dX1_become_0 ?_
  refine vv_iload_n X 2 rfl rfl dX1_become_1 ?_
  refine vv_callNI (As := [.int (zI a), .int (zI b)]) (st := []) (host := RX8) X 2 (c_X8_commonDivisor l D cA had M a b (by omega) (by omega)) gX1_become_X8_commonDivisor_n16 rfl X.2.2.1.2.1 (by decide +kernel) (by decide +kernel) (by decide +kernel) ⟨by decide, by decide⟩ (Nat.le_of_ble_eq_true rfl) ⟨by decide, by decide⟩ rfl rfl dX1_become_2 (fun z2 Mc2 q_2 => ?_)
  obtain ⟨e_z2, g_z2⟩ := q_2
  have g_z2 := g_z2.symm
  subst g_z2
  have hg := fr_g (a := a) hb0
  have hgb : (Int.gcd a b : Int) ≤ b := Int.le_of_dvd hb0 (Int.gcd_dvd_right a b)
  rw [show z2 = (Int.gcd a b : Int) from e_z2]
  refine vv_istore_n (lv' := [(3, .int (zI (Int.gcd a b : Int))), (0, .ref (ad 103)), (1, .int (zI a)), (2, .int (zI b))]) X rfl (by decide) rfl dX1_become_5 ?_
  refine vv_aload_n X 1 rfl rfl dX1_become_6 ?_
  refine vv_iload_n X 0 rfl rfl dX1_become_7 ?_
  refine vv_iconst (n := 1) X dX1_become_8 ?_
  refine vv_icmp_le (tgt := 18) X (by omega) (by omega) dX1_become_9 (by decide) (fun c_9 => ?_) (fun c_9 => ?_)
  · skip
    refine vv_iload_n X 2 rfl rfl dX1_become_18 ?_
    refine vv_puti (Nf := 2) (ref := (TX1 0).1) X (by decide) sh_103 rfl 0 (by decide) u_X1_become_103_1 k_X1_become_103_7 rfl tyX1_ok nmX1 rfl (by decide +kernel) rfl rfl dX1_become_19 ?_
    refine vv_aload_n X 1 rfl rfl dX1_become_22 ?_
    refine vv_iload_n X 0 rfl rfl dX1_become_23 ?_
    refine vv_iconst (n := 1) X dX1_become_24 ?_
    refine vv_icmp_le (tgt := 34) X (by omega) (by omega) dX1_become_25 (by decide) (fun c_25 => ?_) (fun c_25 => ?_)
    · skip
      refine vv_iload_n X 3 rfl rfl dX1_become_34 ?_
      refine vv_puti (Nf := 2) (ref := (TX1 1).1) X (by decide) sh_103 rfl 1 (by decide) u_X1_become_103_1 k_X1_become_103_13 rfl tyX1_ok nmX1 rfl (by decide +kernel) rfl rfl dX1_become_35 ?_
      exact vv_vret X hm (by
        first
        | rfl
        | (have e1 : (Int.gcd a b : Int) = 1 := by omega
           unfold frA frB
           rw [e1, Int.tdiv_one, Int.tdiv_one])
        | omega) dX1_become_38
    · skip
      refine vv_iload_n X 3 rfl rfl dX1_become_28 ?_
      refine vv_iload_n X 0 rfl rfl dX1_become_29 ?_
      refine vv_idiv X (by omega) (by omega) (by omega) dX1_become_30 ?_
      refine vv_goto (tgt := 35) X (by decide) dX1_become_31 ?_
      refine vv_puti (Nf := 2) (ref := (TX1 1).1) X (by decide) sh_103 rfl 1 (by decide) u_X1_become_103_1 k_X1_become_103_13 rfl tyX1_ok nmX1 rfl (by decide +kernel) rfl rfl dX1_become_35 ?_
      exact vv_vret X hm (by
        first
        | rfl
        | (have e1 : (Int.gcd a b : Int) = 1 := by omega
           unfold frA frB
           rw [e1, Int.tdiv_one, Int.tdiv_one])
        | omega) dX1_become_38
  · skip
    refine vv_iload_n X 2 rfl rfl dX1_become_12 ?_
    refine vv_iload_n X 0 rfl rfl dX1_become_13 ?_
    refine vv_idiv X (by omega) (by omega) (by omega) dX1_become_14 ?_
    refine vv_goto (tgt := 19) X (by decide) dX1_become_15 ?_
    refine vv_puti (Nf := 2) (ref := (TX1 0).1) X (by decide) sh_103 rfl 0 (by decide) u_X1_become_103_1 k_X1_become_103_7 rfl tyX1_ok nmX1 rfl (by decide +kernel) rfl rfl dX1_become_19 ?_
    refine vv_aload_n X 1 rfl rfl dX1_become_22 ?_
    refine vv_iload_n X 0 rfl rfl dX1_become_23 ?_
    refine vv_iconst (n := 1) X dX1_become_24 ?_
    refine vv_icmp_le (tgt := 34) X (by omega) (by omega) dX1_become_25 (by decide) (fun c_25 => ?_) (fun c_25 => ?_)
    · skip
      refine vv_iload_n X 3 rfl rfl dX1_become_34 ?_
      refine vv_puti (Nf := 2) (ref := (TX1 1).1) X (by decide) sh_103 rfl 1 (by decide) u_X1_become_103_1 k_X1_become_103_13 rfl tyX1_ok nmX1 rfl (by decide +kernel) rfl rfl dX1_become_35 ?_
      exact vv_vret X hm (by
        first
        | rfl
        | (have e1 : (Int.gcd a b : Int) = 1 := by omega
           unfold frA frB
           rw [e1, Int.tdiv_one, Int.tdiv_one])
        | omega) dX1_become_38
    · skip
      refine vv_iload_n X 3 rfl rfl dX1_become_28 ?_
      refine vv_iload_n X 0 rfl rfl dX1_become_29 ?_
      refine vv_idiv X (by omega) (by omega) (by omega) dX1_become_30 ?_
      refine vv_goto (tgt := 35) X (by decide) dX1_become_31 ?_
      refine vv_puti (Nf := 2) (ref := (TX1 1).1) X (by decide) sh_103 rfl 1 (by decide) u_X1_become_103_1 k_X1_become_103_13 rfl tyX1_ok nmX1 rfl (by decide +kernel) rfl rfl dX1_become_35 ?_
      exact vv_vret X hm (by
        first
        | rfl
        | (have e1 : (Int.gcd a b : Int) = 1 := by omega
           unfold frA frB
           rw [e1, Int.tdiv_one, Int.tdiv_one])
        | omega) dX1_become_38
theorem u_X1_become_104_1 : ∀ w ∈ u_ws RX1 TX1 2, w ∈ wsX1_become := by decide +kernel
theorem k_X1_become_104_7 : Cond.fieldLink yX1_become.cls 7 (TX1 0).1 (TX1 0).2.1 (TX1 0).2.2.1 ∈ wsX1_become := by decide +kernel
theorem k_X1_become_104_13 : Cond.fieldLink yX1_become.cls 13 (TX1 1).1 (TX1 1).2.1 (TX1 1).2.2.1 ∈ wsX1_become := by decide +kernel
set_option maxRecDepth 100000 in
set_option maxHeartbeats 4000000 in
theorem c_X1_become_104 (l : Launch) (D : va_G) {ad : Nat → Nat} (cA : Nat → ClassId) (had : adok ad) (M : Mem) (a b : Int) (ha : -1073741824 ≤ a ∧ a ≤ 1073741824) (hb : b ≤ 1073741824) (hb0 : 0 < b) : CtV l yX1_become wsX1_become 2 46 D ad cA [.ref (ad 104), .int (zI a), .int (zI b)] M (fun M1 => M1 = up2 (up2 M 104 0 (frA a b)) 104 1 (frB a b)) := by
  refine CtV.of (cc := cX1_become) (maxL := 4) (ret := none) had (by decide) rfl (Nat.le_of_ble_eq_true rfl) ?_
  intro p e s m args below meth c X hm
  show VV p l e { frames := 2, cells := 0, slots := 0, locals := 46 } s m args below meth c 4 D ad cA (Afr ad s.heap.size) 0 0 (QV below args s D ad cA (fun M1 => M1 = up2 (up2 M 104 0 (frA a b)) 104 1 (frB a b))) M 0 [(0, .ref (ad 104)), (1, .int (zI a)), (2, .int (zI b))] []
  refine vv_iload_n X 1 rfl rfl dX1_become_0 ?_
  refine vv_iload_n X 2 rfl rfl dX1_become_1 ?_
  refine vv_callNI (As := [.int (zI a), .int (zI b)]) (st := []) (host := RX8) X 2 (c_X8_commonDivisor l D cA had M a b (by omega) (by omega)) gX1_become_X8_commonDivisor_n16 rfl X.2.2.1.2.1 (by decide +kernel) (by decide +kernel) (by decide +kernel) ⟨by decide, by decide⟩ (Nat.le_of_ble_eq_true rfl) ⟨by decide, by decide⟩ rfl rfl dX1_become_2 (fun z2 Mc2 q_2 => ?_)
  obtain ⟨e_z2, g_z2⟩ := q_2
  have g_z2 := g_z2.symm
  subst g_z2
  have hg := fr_g (a := a) hb0
  have hgb : (Int.gcd a b : Int) ≤ b := Int.le_of_dvd hb0 (Int.gcd_dvd_right a b)
  rw [show z2 = (Int.gcd a b : Int) from e_z2]
  refine vv_istore_n (lv' := [(3, .int (zI (Int.gcd a b : Int))), (0, .ref (ad 104)), (1, .int (zI a)), (2, .int (zI b))]) X rfl (by decide) rfl dX1_become_5 ?_
  refine vv_aload_n X 1 rfl rfl dX1_become_6 ?_
  refine vv_iload_n X 0 rfl rfl dX1_become_7 ?_
  refine vv_iconst (n := 1) X dX1_become_8 ?_
  refine vv_icmp_le (tgt := 18) X (by omega) (by omega) dX1_become_9 (by decide) (fun c_9 => ?_) (fun c_9 => ?_)
  · skip
    refine vv_iload_n X 2 rfl rfl dX1_become_18 ?_
    refine vv_puti (Nf := 2) (ref := (TX1 0).1) X (by decide) sh_104 rfl 0 (by decide) u_X1_become_104_1 k_X1_become_104_7 rfl tyX1_ok nmX1 rfl (by decide +kernel) rfl rfl dX1_become_19 ?_
    refine vv_aload_n X 1 rfl rfl dX1_become_22 ?_
    refine vv_iload_n X 0 rfl rfl dX1_become_23 ?_
    refine vv_iconst (n := 1) X dX1_become_24 ?_
    refine vv_icmp_le (tgt := 34) X (by omega) (by omega) dX1_become_25 (by decide) (fun c_25 => ?_) (fun c_25 => ?_)
    · skip
      refine vv_iload_n X 3 rfl rfl dX1_become_34 ?_
      refine vv_puti (Nf := 2) (ref := (TX1 1).1) X (by decide) sh_104 rfl 1 (by decide) u_X1_become_104_1 k_X1_become_104_13 rfl tyX1_ok nmX1 rfl (by decide +kernel) rfl rfl dX1_become_35 ?_
      exact vv_vret X hm (by
        first
        | rfl
        | (have e1 : (Int.gcd a b : Int) = 1 := by omega
           unfold frA frB
           rw [e1, Int.tdiv_one, Int.tdiv_one])
        | omega) dX1_become_38
    · skip
      refine vv_iload_n X 3 rfl rfl dX1_become_28 ?_
      refine vv_iload_n X 0 rfl rfl dX1_become_29 ?_
      refine vv_idiv X (by omega) (by omega) (by omega) dX1_become_30 ?_
      refine vv_goto (tgt := 35) X (by decide) dX1_become_31 ?_
      refine vv_puti (Nf := 2) (ref := (TX1 1).1) X (by decide) sh_104 rfl 1 (by decide) u_X1_become_104_1 k_X1_become_104_13 rfl tyX1_ok nmX1 rfl (by decide +kernel) rfl rfl dX1_become_35 ?_
      exact vv_vret X hm (by
        first
        | rfl
        | (have e1 : (Int.gcd a b : Int) = 1 := by omega
           unfold frA frB
           rw [e1, Int.tdiv_one, Int.tdiv_one])
        | omega) dX1_become_38
  · skip
    refine vv_iload_n X 2 rfl rfl dX1_become_12 ?_
    refine vv_iload_n X 0 rfl rfl dX1_become_13 ?_
    refine vv_idiv X (by omega) (by omega) (by omega) dX1_become_14 ?_
    refine vv_goto (tgt := 19) X (by decide) dX1_become_15 ?_
    refine vv_puti (Nf := 2) (ref := (TX1 0).1) X (by decide) sh_104 rfl 0 (by decide) u_X1_become_104_1 k_X1_become_104_7 rfl tyX1_ok nmX1 rfl (by decide +kernel) rfl rfl dX1_become_19 ?_
    refine vv_aload_n X 1 rfl rfl dX1_become_22 ?_
    refine vv_iload_n X 0 rfl rfl dX1_become_23 ?_
    refine vv_iconst (n := 1) X dX1_become_24 ?_
    refine vv_icmp_le (tgt := 34) X (by omega) (by omega) dX1_become_25 (by decide) (fun c_25 => ?_) (fun c_25 => ?_)
    · skip
      refine vv_iload_n X 3 rfl rfl dX1_become_34 ?_
      refine vv_puti (Nf := 2) (ref := (TX1 1).1) X (by decide) sh_104 rfl 1 (by decide) u_X1_become_104_1 k_X1_become_104_13 rfl tyX1_ok nmX1 rfl (by decide +kernel) rfl rfl dX1_become_35 ?_
      exact vv_vret X hm (by
        first
        | rfl
        | (have e1 : (Int.gcd a b : Int) = 1 := by omega
           unfold frA frB
           rw [e1, Int.tdiv_one, Int.tdiv_one])
        | omega) dX1_become_38
    · skip
      refine vv_iload_n X 3 rfl rfl dX1_become_28 ?_
      refine vv_iload_n X 0 rfl rfl dX1_become_29 ?_
      refine vv_idiv X (by omega) (by omega) (by omega) dX1_become_30 ?_
      refine vv_goto (tgt := 35) X (by decide) dX1_become_31 ?_
      refine vv_puti (Nf := 2) (ref := (TX1 1).1) X (by decide) sh_104 rfl 1 (by decide) u_X1_become_104_1 k_X1_become_104_13 rfl tyX1_ok nmX1 rfl (by decide +kernel) rfl rfl dX1_become_35 ?_
      exact vv_vret X hm (by
        first
        | rfl
        | (have e1 : (Int.gcd a b : Int) = 1 := by omega
           unfold frA frB
           rw [e1, Int.tdiv_one, Int.tdiv_one])
        | omega) dX1_become_38
theorem u_X6_has_6 : ∀ w ∈ u_ws RX6 TX6 3, w ∈ wsX6_has := by decide +kernel
theorem k_X6_has_16 : Cond.fieldLink yX6_has.cls 16 (TX6 2).1 (TX6 2).2.1 (TX6 2).2.2.1 ∈ wsX6_has := by decide +kernel
set_option maxRecDepth 100000 in
set_option maxHeartbeats 4000000 in
theorem c_X6_has (l : Launch) (D : va_G) {ad : Nat → Nat} (cA : Nat → ClassId) (had : adok ad) (M : Mem) (r : Int) (hr : -2147483648 ≤ r ∧ r ≤ 2147483647) (hn : 0 ≤ M 6 2 ∧ M 6 2 ≤ 6) : CtI l yX6_has wsX6_has 0 0 D ad cA [.ref (ad 6), .int (zI r)] M (fun z M1 => z = (if 0 ≤ r ∧ r < M 6 2 then 1 else 0) ∧ M1 = M) := by
  refine CtI.of (cc := cX6_has) (maxL := 2) (ret := (some .boolean)) had (by decide) rfl (Nat.le_of_ble_eq_true rfl) ?_
  intro p e s m args below meth c X hm
  show VV p l e { frames := 0, cells := 0, slots := 0, locals := 0 } s m args below meth c 2 D ad cA (Afr ad s.heap.size) 0 0 (QI below args s D ad cA (fun z M1 => z = (if 0 ≤ r ∧ r < M 6 2 then 1 else 0) ∧ M1 = M)) M 0 [(0, .ref (ad 6)), (1, .int (zI r))] []
  refine vv_iload_n X 1 rfl rfl dX6_has_0 ?_
  refine vv_if_lt (tgt := 16) X (by omega) dX6_has_1 (by decide) (fun c_1 => ?_) (fun c_1 => ?_)
  · skip
    refine vv_iconst (n := 0) X dX6_has_16 ?_
    exact vv_zret X hm (by omega) (⟨by first | rw [if_pos (by omega)] | rw [if_neg (by omega)], rfl⟩) dX6_has_17
  · skip
    refine vv_iload_n X 1 rfl rfl dX6_has_4 ?_
    refine vv_aload_n X 0 rfl rfl dX6_has_5 ?_
    refine vv_geti (Nf := 3) (ref := (TX6 2).1) (z := (M 6 2)) X (by decide) sh_6 rfl 2 (by decide) u_X6_has_6 k_X6_has_16 rfl rfl (rfl) dX6_has_6 ?_
    refine vv_icmp_ge (tgt := 16) X (by omega) (by omega) dX6_has_9 (by decide) (fun c_9 => ?_) (fun c_9 => ?_)
    · skip
      refine vv_iconst (n := 0) X dX6_has_16 ?_
      exact vv_zret X hm (by omega) (⟨by first | rw [if_pos (by omega)] | rw [if_neg (by omega)], rfl⟩) dX6_has_17
    · skip
      refine vv_iconst (n := 1) X dX6_has_12 ?_
      refine vv_goto (tgt := 17) X (by decide) dX6_has_13 ?_
      exact vv_zret X hm (by omega) (⟨by first | rw [if_pos (by omega)] | rw [if_neg (by omega)], rfl⟩) dX6_has_17
theorem u_X6_append_6 : ∀ w ∈ u_ws RX6 TX6 3, w ∈ wsX6_append := by decide +kernel
theorem k_X6_append_9 : Cond.fieldLink yX6_append.cls 9 (TX6 0).1 (TX6 0).2.1 (TX6 0).2.2.1 ∈ wsX6_append := by decide +kernel
theorem k_X6_append_13 : Cond.fieldLink yX6_append.cls 13 (TX6 1).1 (TX6 1).2.1 (TX6 1).2.2.1 ∈ wsX6_append := by decide +kernel
theorem k_X6_append_16 : Cond.fieldLink yX6_append.cls 16 (TX6 2).1 (TX6 2).2.1 (TX6 2).2.2.1 ∈ wsX6_append := by decide +kernel
set_option maxRecDepth 100000 in
set_option maxHeartbeats 4000000 in
theorem c_X6_append (l : Launch) (D : va_G) {ad : Nat → Nat} (cA : Nat → ClassId) (had : adok ad) (M : Mem) (x w : Int) (hn : 0 ≤ M 6 2 ∧ M 6 2 ≤ 6) : CtV l yX6_append wsX6_append 0 0 D ad cA [.ref (ad 6), .int (zI x), .int (zI w)] M (fun M1 => M1 = (if M 6 2 < 6 then up2 (up2 (up2 M 7 (M 6 2).toNat w) 8 (M 6 2).toNat x) 6 2 (M 6 2 + 1) else M)) := by
  refine CtV.of (cc := cX6_append) (maxL := 3) (ret := none) had (by decide) rfl (Nat.le_of_ble_eq_true rfl) ?_
  intro p e s m args below meth c X hm
  show VV p l e { frames := 0, cells := 0, slots := 0, locals := 0 } s m args below meth c 3 D ad cA (Afr ad s.heap.size) 0 0 (QV below args s D ad cA (fun M1 => M1 = (if M 6 2 < 6 then up2 (up2 (up2 M 7 (M 6 2).toNat w) 8 (M 6 2).toNat x) 6 2 (M 6 2 + 1) else M))) M 0 [(0, .ref (ad 6)), (1, .int (zI x)), (2, .int (zI w))] []
  refine vv_aload_n X 0 rfl rfl dX6_append_0 ?_
  refine vv_geti (Nf := 3) (ref := (TX6 2).1) (z := (M 6 2)) X (by decide) sh_6 rfl 2 (by decide) u_X6_append_6 k_X6_append_16 rfl rfl (rfl) dX6_append_1 ?_
  refine vv_bipush (n := 6) X (by decide) dX6_append_4 ?_
  refine vv_icmp_ge (tgt := 39) X (by omega) (by omega) dX6_append_6 (by decide) (fun c_6 => ?_) (fun c_6 => ?_)
  · skip
    exact vv_vret X hm (by first | rw [if_pos (by omega)] | rw [if_neg (by omega)]) dX6_append_39
  · skip
    refine vv_aload_n X 0 rfl rfl dX6_append_9 ?_
    refine vv_getr (Nf := 3) (ref := (TX6 0).1) X (by decide) sh_6 rfl 0 (by decide) u_X6_append_6 k_X6_append_9 rfl rfl dX6_append_10 ?_
    refine vv_aload_n X 0 rfl rfl dX6_append_13 ?_
    refine vv_geti (Nf := 3) (ref := (TX6 2).1) (z := (M 6 2)) X (by decide) sh_6 rfl 2 (by decide) u_X6_append_6 k_X6_append_16 rfl rfl (rfl) dX6_append_14 ?_
    refine vv_iload_n X 2 rfl rfl dX6_append_17 ?_
    refine vv_iast (ix := (Int.toNat (M 6 2))) X (by decide) sh_7 (by decide) (by omega) (rfl) dX6_append_18 ?_
    refine vv_aload_n X 0 rfl rfl dX6_append_19 ?_
    refine vv_getr (Nf := 3) (ref := (TX6 1).1) X (by decide) sh_6 rfl 1 (by decide) u_X6_append_6 k_X6_append_13 rfl rfl dX6_append_20 ?_
    refine vv_aload_n X 0 rfl rfl dX6_append_23 ?_
    refine vv_geti (Nf := 3) (ref := (TX6 2).1) (z := (M 6 2)) X (by decide) sh_6 rfl 2 (by decide) u_X6_append_6 k_X6_append_16 rfl rfl (rfl) dX6_append_24 ?_
    refine vv_iload_n X 1 rfl rfl dX6_append_27 ?_
    refine vv_iast (ix := (Int.toNat (M 6 2))) X (by decide) sh_8 (by decide) (by omega) (rfl) dX6_append_28 ?_
    refine vv_aload_n X 0 rfl rfl dX6_append_29 ?_
    refine vv_dup X rfl dX6_append_30 ?_
    refine vv_geti (Nf := 3) (ref := (TX6 2).1) (z := (M 6 2)) X (by decide) sh_6 rfl 2 (by decide) u_X6_append_6 k_X6_append_16 rfl rfl (rfl) dX6_append_31 ?_
    refine vv_iconst (n := 1) X dX6_append_34 ?_
    refine vv_iadd X dX6_append_35 ?_
    refine vv_puti (Nf := 3) (ref := (TX6 2).1) X (by decide) sh_6 rfl 2 (by decide) u_X6_append_6 k_X6_append_16 rfl tyX6_ok nmX6 rfl (by decide +kernel) rfl rfl dX6_append_36 ?_
    exact vv_vret X hm (by first | rw [if_pos (by omega)] | rw [if_neg (by omega)]) dX6_append_39
theorem u_X6_becomeOne_6 : ∀ w ∈ u_ws RX6 TX6 3, w ∈ wsX6_becomeOne := by decide +kernel
theorem k_X6_becomeOne_16 : Cond.fieldLink yX6_becomeOne.cls 16 (TX6 2).1 (TX6 2).2.1 (TX6 2).2.2.1 ∈ wsX6_becomeOne := by decide +kernel
set_option maxRecDepth 100000 in
set_option maxHeartbeats 4000000 in
theorem c_X6_becomeOne (l : Launch) (D : va_G) {ad : Nat → Nat} (cA : Nat → ClassId) (had : adok ad) (M : Mem) (x : Int) : CtV l yX6_becomeOne wsX6_becomeOne 1 22 D ad cA [.ref (ad 6), .int (zI x)] M (fun M1 => M1 = up2 (up2 (up2 (up2 M 6 2 0) 7 0 1) 8 0 x) 6 2 1) := by
  refine CtV.of (cc := cX6_becomeOne) (maxL := 2) (ret := none) had (by decide) rfl (Nat.le_of_ble_eq_true rfl) ?_
  intro p e s m args below meth c X hm
  show VV p l e { frames := 1, cells := 0, slots := 0, locals := 22 } s m args below meth c 2 D ad cA (Afr ad s.heap.size) 0 0 (QV below args s D ad cA (fun M1 => M1 = up2 (up2 (up2 (up2 M 6 2 0) 7 0 1) 8 0 x) 6 2 1)) M 0 [(0, .ref (ad 6)), (1, .int (zI x))] []
  refine vv_aload_n X 0 rfl rfl dX6_becomeOne_0 ?_
  refine vv_iconst (n := 0) X dX6_becomeOne_1 ?_
  refine vv_puti (Nf := 3) (ref := (TX6 2).1) X (by decide) sh_6 rfl 2 (by decide) u_X6_becomeOne_6 k_X6_becomeOne_16 rfl tyX6_ok nmX6 rfl (by decide +kernel) rfl rfl dX6_becomeOne_2 ?_
  refine vv_aload_n X 0 rfl rfl dX6_becomeOne_5 ?_
  refine vv_iload_n X 1 rfl rfl dX6_becomeOne_6 ?_
  refine vv_iconst (n := 1) X dX6_becomeOne_7 ?_
  refine vv_callVV (As := [.int (zI x), .int (zI 1)]) (st := []) (Nf := 3) X 2 (c_X6_append l D cA had (up2 M 6 2 0) x 1 (by simp [up2_s])) gX6_becomeOne_X6_append rfl (by decide +kernel) ⟨by decide, by decide⟩ (Nat.le_of_ble_eq_true rfl) ⟨by decide, by decide⟩ rfl (by decide) sh_6 rfl rfl dX6_becomeOne_8 (fun Mc8 q_8 => ?_)
  exact vv_vret X hm (by
    rw [q_8, if_pos (by simp [up2_s])]
    simp [up2_s]) dX6_becomeOne_11
theorem u_X6_weightSum_6 : ∀ w ∈ u_ws RX6 TX6 3, w ∈ wsX6_weightSum := by decide +kernel
theorem k_X6_weightSum_9 : Cond.fieldLink yX6_weightSum.cls 9 (TX6 0).1 (TX6 0).2.1 (TX6 0).2.2.1 ∈ wsX6_weightSum := by decide +kernel
theorem k_X6_weightSum_16 : Cond.fieldLink yX6_weightSum.cls 16 (TX6 2).1 (TX6 2).2.1 (TX6 2).2.2.1 ∈ wsX6_weightSum := by decide +kernel
set_option maxRecDepth 100000 in
set_option maxHeartbeats 4000000 in
theorem c_X6_weightSum (l : Launch) (D : va_G) {ad : Nat → Nat} (cA : Nat → ClassId) (had : adok ad) (M : Mem) (hn : 0 ≤ M 6 2 ∧ M 6 2 ≤ 6) : CtI l yX6_weightSum wsX6_weightSum 0 0 D ad cA [.ref (ad 6)] M (fun z M1 => z = sm (M 7) (M 6 2).toNat ∧ M1 = M) := by
  refine CtI.of (cc := cX6_weightSum) (maxL := 3) (ret := (some .int)) had (by decide) rfl (Nat.le_of_ble_eq_true rfl) ?_
  intro p e s m args below meth c X hm
  show VV p l e { frames := 0, cells := 0, slots := 0, locals := 0 } s m args below meth c 3 D ad cA (Afr ad s.heap.size) 0 0 (QI below args s D ad cA (fun z M1 => z = sm (M 7) (M 6 2).toNat ∧ M1 = M)) M 0 [(0, .ref (ad 6))] []
  refine vv_iconst (n := 0) X dX6_weightSum_0 ?_
  refine vv_istore_n (lv' := [(1, .int (zI 0)), (0, .ref (ad 6))]) X rfl (by decide) rfl dX6_weightSum_1 ?_
  refine vv_iconst (n := 0) X dX6_weightSum_2 ?_
  refine vv_istore_n (lv' := [(2, .int (zI 0)), (1, .int (zI 0)), (0, .ref (ad 6))]) X rfl (by decide) rfl dX6_weightSum_3 ?_
  have loop_4 : ∀ (n : Nat)  (k : Nat) (a1 : Int) (a2 : Int), a2 = (k : Int) → (k : Int) ≤ M 6 2 → a1 = sm (M 7) k → (M 6 2 - a2).toNat < n → VV p l e { frames := 0, cells := 0, slots := 0, locals := 0 } s m args below meth c 3 D ad cA (Afr ad s.heap.size) 0 0 (QI below args s D ad cA (fun z M1 => z = sm (M 7) (M 6 2).toNat ∧ M1 = M)) M 4 [(0, .ref (ad 6)), (1, .int (zI a1)), (2, .int (zI a2))] [] := by
    intro n
    induction n with
    | zero => intro k a1 a2 h2 hk h1 hn; exact absurd hn (Nat.not_lt_zero _)
    | succ n ih_4 =>
      intro k a1 a2 h2 hk h1 hn
      have h6 : a2.toNat = k := by omega
      refine vv_iload_n X 2 rfl rfl dX6_weightSum_4 ?_
      refine vv_aload_n X 0 rfl rfl dX6_weightSum_5 ?_
      refine vv_geti (Nf := 3) (ref := (TX6 2).1) (z := (M 6 2)) X (by decide) sh_6 rfl 2 (by decide) u_X6_weightSum_6 k_X6_weightSum_16 rfl rfl (rfl) dX6_weightSum_6 ?_
      refine vv_icmp_ge (tgt := 27) X (by omega) (by omega) dX6_weightSum_9 (by decide) (fun c_9 => ?_) (fun c_9 => ?_)
      · skip
        refine vv_iload_n X 1 rfl rfl dX6_weightSum_27 ?_
        exact vv_iret X hm (⟨by rw [h1, show (M 6 2).toNat = k by omega], rfl⟩) dX6_weightSum_28
      · skip
        refine vv_iload_n X 1 rfl rfl dX6_weightSum_12 ?_
        refine vv_aload_n X 0 rfl rfl dX6_weightSum_13 ?_
        refine vv_getr (Nf := 3) (ref := (TX6 0).1) X (by decide) sh_6 rfl 0 (by decide) u_X6_weightSum_6 k_X6_weightSum_9 rfl rfl dX6_weightSum_14 ?_
        refine vv_iload_n X 2 rfl rfl dX6_weightSum_17 ?_
        refine vv_iald (z := (M 7 (Int.toNat a2))) X (by decide) sh_7 (by decide) (by omega) (rfl) dX6_weightSum_18 ?_
        refine vv_iadd X dX6_weightSum_19 ?_
        refine vv_istore_n (lv' := [(1, .int (zI (a1 + (M 7 (Int.toNat a2))))), (0, .ref (ad 6)), (2, .int (zI a2))]) X rfl (by decide) rfl dX6_weightSum_20 ?_
        refine vv_iinc (lv' := [(2, .int (zI (a2 + 1))), (1, .int (zI (a1 + (M 7 (Int.toNat a2))))), (0, .ref (ad 6))]) X 2 rfl (by decide) rfl dX6_weightSum_21 ?_
        refine vv_goto (tgt := 4) X (by decide) dX6_weightSum_24 ?_
        refine vv_sub (lv' := [(0, .ref (ad 6)), (1, .int (zI (a1 + (M 7 (Int.toNat a2))))), (2, .int (zI (a2 + 1)))]) [2, 1, 0] rfl ?_
        exact ih_4 (k + 1) (a1 + (M 7 (Int.toNat a2))) (a2 + 1) (by omega) (by omega) (by rw [h6, h1]; rfl) (by omega)
  refine vv_sub (lv' := [(0, .ref (ad 6)), (1, .int (zI 0)), (2, .int (zI 0))]) [2, 1, 0] rfl ?_
  exact loop_4 _ 0 0 0 rfl (by omega) rfl (Nat.lt_succ_self _)
