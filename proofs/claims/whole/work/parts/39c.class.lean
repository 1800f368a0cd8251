set_option maxRecDepth 100000 in
set_option maxHeartbeats 4000000 in
theorem c_X4_readParts (l : Launch) (D : va_G) {ad : Nat → Nat} (cA : Nat → ClassId) (had : adok ad) (M : Mem) (i : Nat) (hi : M 95 3 = (i : Int)) (h5 : M 95 5 = ((0 : Nat) : Int)) (hil : (i : Int) ≤ M 95 2) (hP : PW M) : CtI l yX4_readParts wsX4_readParts 2 42 D ad cA [.ref (ad 95)] M (fun z M1 => TQ M M1 (PR (cC M) 6 i (fun _ => 0) 0) z) := by
  refine CtI.of (cc := cX4_readParts) (maxL := 2) (ret := (some .boolean)) had (by decide) rfl (Nat.le_of_ble_eq_true rfl) ?_
  intro p e s m args below meth c X hm
  show VV p l e { frames := 2, cells := 0, slots := 0, locals := 42 } s m args below meth c 2 D ad cA (Afr ad s.heap.size) 0 0 (QI below args s D ad cA (fun z M1 => TQ M M1 (PR (cC M) 6 i (fun _ => 0) 0) z)) M 0 [(0, .ref (ad 95))] []
  have hl := hP.1
  have hCb := cC_b hP
  have hCn := cC_n hP
  have hc0 := hCb i
  refine vv_iconst (n := 0) X dX4_readParts_0 ?_
  refine vv_istore_n (lv' := [(1, .int (zI 0)), (0, .ref (ad 95))]) X rfl (by decide) rfl dX4_readParts_1 ?_
  have loop_2 : ∀ (n : Nat) (M_2 : Mem) (k : Nat) (j : Nat) (f : Nat → Int) (g : Nat → Int) (a1 : Int), a1 = (k : Int) → k < 6 → PS M M_2 j (2 * k) g → (∀ q : Nat, q < 12 → (if q < 2 * k then g q else 0) = f q) → j ≤ (M 95 2).toNat → PR (cC M) (6 - k) j f k = PR (cC M) 6 i (fun _ => 0) 0 → 6 - k < n → VV p l e { frames := 2, cells := 0, slots := 0, locals := 42 } s m args below meth c 2 D ad cA (Afr ad s.heap.size) 0 0 (QI below args s D ad cA (fun z M1 => TQ M M1 (PR (cC M) 6 i (fun _ => 0) 0) z)) M_2 2 [(0, .ref (ad 95)), (1, .int (zI a1))] [] := by
    intro n
    induction n with
    | zero => intro M_2 k j f g a1 h1 hk hS2 hf hj hR hn; exact absurd hn (Nat.not_lt_zero _)
    | succ n ih_2 =>
      intro M_2 k j f g a1 h1 hk hS2 hf hj hR hn
      have p2 := hS2.2
      have pe2 := hS2.1.1.2
      refine vv_iload_n X 1 rfl rfl dX4_readParts_2 ?_
      refine vv_bipush (n := 6) X (by decide) dX4_readParts_3 ?_
      refine vv_icmp_ge (tgt := 55) X (by omega) (by omega) dX4_readParts_5 (by decide) (fun c_5 => ?_) (fun c_5 => ?_)
      · skip
        omega
      · skip
        refine vv_aload_n X 0 rfl rfl dX4_readParts_8 ?_
        refine vv_callVI (As := []) (st := []) (Nf := 6) X 0 (c_X4_readNumber l D cA had M_2 j (2 * k) (hS2.2.1) (hS2.2.2.1) (by rw [hS2.1.1.2]; omega) (PS_W hS2 hP) (by omega)) gX4_readParts_X4_readNumber rfl (by decide +kernel) ⟨by decide, by decide⟩ (Nat.le_of_ble_eq_true rfl) ⟨by decide, by decide⟩ rfl (by decide) sh_95 rfl rfl dX4_readParts_9 (fun z9 Mc9 q_9 => ?_)
        obtain ⟨e_z9, hs9⟩ := q_9
        rw [PS_c hS2] at e_z9 hs9
        rw [hS2.2.2.2] at hs9
        obtain ⟨n9, en9⟩ : ∃ q, q = num (cC M) j := ⟨_, rfl⟩
        have l9 := num_le (C := cC M) (n := (M 95 2).toNat) (i := j) hCn (by omega)
        have b9 := num_b (C := cC M) (n := (M 95 2).toNat) (i := j) hCn
        rw [← en9] at e_z9 hs9 l9 b9
        have hS9 := PS_tr hS2 hs9
        refine vv_if_eq (tgt := 31) X (by rw [e_z9]; split <;> omega) dX4_readParts_12 (by decide) (fun c_12 => ?_) (fun c_12 => ?_)
        · skip
          have hf9 : n9.1 < 0 := Classical.byContradiction fun q => by rw [if_neg q] at e_z9; omega
          simp only [if_pos hf9] at hS9
          refine vv_iconst (n := 0) X dX4_readParts_31 ?_
          exact vv_zret X hm (by omega) (by
            rw [← hR, PR_u hk, ← en9]
            rw [if_pos hf9]
            exact TQ_bad hS9) dX4_readParts_32
        · skip
          have hf9 : ¬ n9.1 < 0 := fun q => by rw [if_pos q] at e_z9; omega
          simp only [if_neg hf9] at hS9
          have p9 := hS9.2
          refine vv_aload_n X 0 rfl rfl dX4_readParts_15 ?_
          refine vv_bipush (n := 64) X (by decide) dX4_readParts_16 ?_
          refine vv_callVI (As := [.int (zI 64)]) (st := []) (Nf := 6) X 1 (c_X4_skip l D cA had Mc9 64 (by omega) n9.2 (2 * k + 1) (hS9.2.1) (hS9.2.2.1) (by rw [hS9.1.1.2]; omega) (PS_W hS9 hP)) gX4_readParts_X4_skip rfl (by decide +kernel) ⟨by decide, by decide⟩ (Nat.le_of_ble_eq_true rfl) ⟨by decide, by decide⟩ rfl (by decide) sh_95 rfl rfl dX4_readParts_18 (fun z18 Mc18 q_18 => ?_)
          obtain ⟨e_z18, hs18⟩ := q_18
          rw [PS_c hS9] at e_z18 hs18
          rw [hS9.2.2.2] at hs18
          have hS18 := PS_tr hS9 hs18
          refine vv_if_eq (tgt := 31) X (by rw [e_z18]; split <;> omega) dX4_readParts_21 (by decide) (fun c_21 => ?_) (fun c_21 => ?_)
          · skip
            have hk18 : ¬ cC M n9.2 = 64 := fun q => by rw [if_pos q] at e_z18; omega
            simp only [if_neg hk18] at hS18
            have p18 := hS18.2
            refine vv_iconst (n := 0) X dX4_readParts_31 ?_
            exact vv_zret X hm (by omega) (by
              rw [← hR, PR_u hk, ← en9]
              rw [if_neg hf9]
              rw [if_neg hk18]
              exact TQ_bad hS18) dX4_readParts_32
          · skip
            have hk18 : cC M n9.2 = 64 := Classical.byContradiction fun q => by rw [if_neg q] at e_z18; omega
            simp only [if_pos hk18] at hS18
            have p18 := hS18.2
            have g18 := C_lt hCn (i := n9.2) (by omega)
            refine vv_aload_n X 0 rfl rfl dX4_readParts_24 ?_
            refine vv_callVI (As := []) (st := []) (Nf := 6) X 0 (c_X4_readNumber l D cA had Mc18 (n9.2 + 1) (2 * k + 1) (hS18.2.1) (hS18.2.2.1) (by rw [hS18.1.1.2]; omega) (PS_W hS18 hP) (by omega)) gX4_readParts_X4_readNumber rfl (by decide +kernel) ⟨by decide, by decide⟩ (Nat.le_of_ble_eq_true rfl) ⟨by decide, by decide⟩ rfl (by decide) sh_95 rfl rfl dX4_readParts_25 (fun z25 Mc25 q_25 => ?_)
            obtain ⟨e_z25, hs25⟩ := q_25
            rw [PS_c hS18] at e_z25 hs25
            rw [hS18.2.2.2] at hs25
            obtain ⟨n25, en25⟩ : ∃ q, q = num (cC M) (n9.2 + 1) := ⟨_, rfl⟩
            have l25 := num_le (C := cC M) (n := (M 95 2).toNat) (i := n9.2 + 1) hCn (by omega)
            have b25 := num_b (C := cC M) (n := (M 95 2).toNat) (i := n9.2 + 1) hCn
            rw [← en25] at e_z25 hs25 l25 b25
            have hS25 := PS_tr hS18 hs25
            refine vv_if_ne (tgt := 33) X (by rw [e_z25]; split <;> omega) dX4_readParts_28 (by decide) (fun c_28 => ?_) (fun c_28 => ?_)
            · skip
              have hf25 : ¬ n25.1 < 0 := fun q => by rw [if_pos q] at e_z25; omega
              simp only [if_neg hf25] at hS25
              have p25 := hS25.2
              have pfe : pf (cC M) j f k = uz (uz f (2 * k) n9.1) (2 * k + 1) n25.1 := by
                unfold pf
                rw [← en9, ← en25]
              refine vv_iload_n X 1 rfl rfl dX4_readParts_33 ?_
              refine vv_iconst (n := 5) X dX4_readParts_34 ?_
              refine vv_icmp_eq (tgt := 47) X (by omega) (by omega) dX4_readParts_35 (by decide) (fun c_35 => ?_) (fun c_35 => ?_)
              · skip
                refine vv_iconst (n := 1) X dX4_readParts_47 ?_
                exact vv_zret X hm (by omega) (by
                  rw [← hR, PR_u hk, ← en9]
                  rw [if_neg hf9]
                  rw [if_pos hk18, ← en25]
                  rw [if_neg hf25]
                  rw [if_neg (fun w => w.1 (by omega)), pfe]
                  refine TQ_ok hS25 (by omega) (fun q hq => ?_) (fun _ => by omega)
                  have hgq := hf q hq
                  by_cases a9 : q < 2 * k
                  · rw [if_pos a9] at hgq
                    unfold uz
                    (repeat' split) <;> omega
                  · rw [if_neg a9] at hgq
                    unfold uz
                    (repeat' split) <;> omega) dX4_readParts_48
              · skip
                refine vv_aload_n X 0 rfl rfl dX4_readParts_38 ?_
                refine vv_bipush (n := 44) X (by decide) dX4_readParts_39 ?_
                refine vv_callVI (As := [.int (zI 44)]) (st := []) (Nf := 6) X 1 (c_X4_skip l D cA had Mc25 44 (by omega) n25.2 (2 * k + 1 + 1) (hS25.2.1) (hS25.2.2.1) (by rw [hS25.1.1.2]; omega) (PS_W hS25 hP)) gX4_readParts_X4_skip rfl (by decide +kernel) ⟨by decide, by decide⟩ (Nat.le_of_ble_eq_true rfl) ⟨by decide, by decide⟩ rfl (by decide) sh_95 rfl rfl dX4_readParts_41 (fun z41 Mc41 q_41 => ?_)
                obtain ⟨e_z41, hs41⟩ := q_41
                rw [PS_c hS25] at e_z41 hs41
                rw [hS25.2.2.2] at hs41
                have hS41 := PS_tr hS25 hs41
                refine vv_if_ne (tgt := 49) X (by rw [e_z41]; split <;> omega) dX4_readParts_44 (by decide) (fun c_44 => ?_) (fun c_44 => ?_)
                · skip
                  have hk41 : cC M n25.2 = 44 := Classical.byContradiction fun q => by rw [if_neg q] at e_z41; omega
                  simp only [if_pos hk41] at hS41
                  have p41 := hS41.2
                  have g41 := C_lt hCn (i := n25.2) (by omega)
                  refine vv_iinc (lv' := [(1, .int (zI (a1 + 1))), (0, .ref (ad 95))]) X 1 rfl (by decide) rfl dX4_readParts_49 ?_
                  refine vv_goto (tgt := 2) X (by decide) dX4_readParts_52 ?_
                  refine vv_sub (lv' := [(0, .ref (ad 95)), (1, .int (zI (a1 + 1)))]) [1, 0] rfl ?_
                  exact ih_2 Mc41 (k + 1) (n25.2 + 1) (pf (cC M) j f k) (uz (uz g (2 * k) n9.1) (2 * k + 1) n25.1) (a1 + 1) (by omega) (by omega) (by rw [show 2 * (k + 1) = 2 * k + 1 + 1 by omega]; exact hS41) (fun q hq => by
                    rw [pfe]
                    have hgq := hf q hq
                    by_cases a9 : q < 2 * k
                    · rw [if_pos a9] at hgq
                      unfold uz
                      (repeat' split) <;> omega
                    · rw [if_neg a9] at hgq
                      unfold uz
                      (repeat' split) <;> omega) (by omega) (by
                    rw [← hR, PR_u hk, ← en9, if_neg hf9, if_pos hk18, ← en25, if_neg hf25, if_pos ⟨by omega, hk41⟩, show 5 - k = 6 - (k + 1) by omega]) (by omega)
                · skip
                  have hk41 : ¬ cC M n25.2 = 44 := fun q => by rw [if_pos q] at e_z41; omega
                  simp only [if_neg hk41] at hS41
                  have p41 := hS41.2
                  refine vv_iconst (n := 1) X dX4_readParts_47 ?_
                  exact vv_zret X hm (by omega) (by
                    rw [← hR, PR_u hk, ← en9]
                    rw [if_neg hf9]
                    rw [if_pos hk18, ← en25]
                    rw [if_neg hf25]
                    rw [if_neg (fun w => hk41 w.2), pfe]
                    refine TQ_ok hS41 (by omega) (fun q hq => ?_) (fun _ => by omega)
                    have hgq := hf q hq
                    by_cases a9 : q < 2 * k
                    · rw [if_pos a9] at hgq
                      unfold uz
                      (repeat' split) <;> omega
                    · rw [if_neg a9] at hgq
                      unfold uz
                      (repeat' split) <;> omega) dX4_readParts_48
            · skip
              have hf25 : n25.1 < 0 := Classical.byContradiction fun q => by rw [if_neg q] at e_z25; omega
              simp only [if_pos hf25] at hS25
              refine vv_iconst (n := 0) X dX4_readParts_31 ?_
              exact vv_zret X hm (by omega) (by
                rw [← hR, PR_u hk, ← en9]
                rw [if_neg hf9]
                rw [if_pos hk18, ← en25]
                rw [if_pos hf25]
                exact TQ_bad hS25) dX4_readParts_32
  refine vv_sub (lv' := [(0, .ref (ad 95)), (1, .int (zI 0))]) [1, 0] rfl ?_
  exact loop_2 _ M 0 i (fun _ => 0) (M 97) 0 rfl (by omega) (PS_rf hi h5) (fun q hq => by rw [if_neg (by omega)]) (by omega) rfl (Nat.lt_succ_self _)
theorem u_X4_readNext_4 : ∀ w ∈ u_ws RX4 TX4 6, w ∈ wsX4_readNext := by decide +kernel
theorem k_X4_readNext_25 : Cond.fieldLink yX4_readNext.cls 25 (TX4 3).1 (TX4 3).2.1 (TX4 3).2.2.1 ∈ wsX4_readNext := by decide +kernel
theorem k_X4_readNext_28 : Cond.fieldLink yX4_readNext.cls 28 (TX4 4).1 (TX4 4).2.1 (TX4 4).2.2.1 ∈ wsX4_readNext := by decide +kernel
theorem k_X4_readNext_31 : Cond.fieldLink yX4_readNext.cls 31 (TX4 5).1 (TX4 5).2.1 (TX4 5).2.2.1 ∈ wsX4_readNext := by decide +kernel
set_option maxRecDepth 100000 in
set_option maxHeartbeats 4000000 in
theorem c_X4_readNext (l : Launch) (D : va_G) {ad : Nat → Nat} (cA : Nat → ClassId) (had : adok ad) (M : Mem) (i t : Nat) (hi : M 95 3 = (i : Int)) (h5 : M 95 5 = (t : Int)) (hil : (i : Int) ≤ M 95 2) (hP : PW M) : CtI l yX4_readNext wsX4_readNext 3 63 D ad cA [.ref (ad 95)] M (fun z M1 => NX (cC M) i M M1 z) := by
  refine CtI.of (cc := cX4_readNext) (maxL := 1) (ret := (some .boolean)) had (by decide) rfl (Nat.le_of_ble_eq_true rfl) ?_
  intro p e s m args below meth c X hm
  show VV p l e { frames := 3, cells := 0, slots := 0, locals := 63 } s m args below meth c 1 D ad cA (Afr ad s.heap.size) 0 0 (QI below args s D ad cA (fun z M1 => NX (cC M) i M M1 z)) M 0 [(0, .ref (ad 95))] []
  have hl := hP.1
  have hCb := cC_b hP
  have hCn := cC_n hP
  have hc0 := hCb i
  have hS0 := PS_rf hi h5
  refine vv_aload_n X 0 rfl rfl dX4_readNext_0 ?_
  refine vv_geti (Nf := 6) (ref := (TX4 3).1) (z := (M 95 3)) X (by decide) sh_95 rfl 3 (by decide) u_X4_readNext_4 k_X4_readNext_25 rfl rfl (rfl) dX4_readNext_1 ?_
  refine vv_if_le (tgt := 18) X (by omega) dX4_readNext_4 (by decide) (fun c_4 => ?_) (fun c_4 => ?_)
  · skip
    have hSx : PS M M i t (M 97) := PS_rf hi h5
    have es : (if 0 < i then i + 1 else i) = i := if_neg (by omega)
    have hnx : ¬ (0 < i ∧ cC M i ≠ 59) := by omega
    have hsl : i ≤ (M 95 2).toNat := by omega
    refine vv_aload_n X 0 rfl rfl dX4_readNext_18 ?_
    refine vv_iconst (n := 0) X dX4_readNext_19 ?_
    refine vv_puti (Nf := 6) (ref := (TX4 5).1) X (by decide) sh_95 rfl 5 (by decide) u_X4_readNext_4 k_X4_readNext_31 rfl tyX4_ok nmX4 rfl (by decide +kernel) rfl rfl dX4_readNext_20 ?_
    refine vv_aload_n X 0 rfl rfl dX4_readNext_23 ?_
    refine vv_aload_n X 0 rfl rfl dX4_readNext_24 ?_
    refine vv_callVI (As := []) (st := [.ref (ad 95)]) (Nf := 6) X 0 (c_X4_sign l D cA had (up2 M 95 5 0) i (by rw [up2_m _ _ _ (by decide)]; exact hSx.2.1) (by omega) (PE_W (PE_up (by decide) hSx.1.1) hP)) gX4_readNext_X4_sign rfl (by decide +kernel) ⟨by decide, by decide⟩ (Nat.le_of_ble_eq_true rfl) ⟨by decide, by decide⟩ rfl (by decide) sh_95 rfl rfl dX4_readNext_25 (fun z25 Mc25 q_25 => ?_)
    obtain ⟨e_z25, g_z25⟩ := q_25
    have g_z25 := g_z25.symm
    subst g_z25
    rw [PE_c (PE_up (by decide) hSx.1.1)] at e_z25
    have hb25 := hCb i
    refine vv_puti (Nf := 6) (ref := (TX4 4).1) X (by decide) sh_95 rfl 4 (by decide) u_X4_readNext_4 k_X4_readNext_28 rfl tyX4_ok nmX4 rfl (by decide +kernel) rfl rfl dX4_readNext_28 ?_
    refine vv_aload_n X 0 rfl rfl dX4_readNext_31 ?_
    refine vv_geti (Nf := 6) (ref := (TX4 4).1) (z := z25) X (by decide) sh_95 rfl 4 (by decide) u_X4_readNext_4 k_X4_readNext_28 rfl rfl (rfl) dX4_readNext_32 ?_
    by_cases c_35_0 : z25 = 45
    · skip
      refine vv_look (tgt := 99) (off := 64) X (by omega) dX4_readNext_35 (by decide) (by rw [c_35_0]; decide) (by decide) ?_
      refine vv_aload_n X 0 rfl rfl dX4_readNext_99 ?_
      refine vv_dup X rfl dX4_readNext_100 ?_
      refine vv_geti (Nf := 6) (ref := (TX4 3).1) (z := (M 95 3)) X (by decide) sh_95 rfl 3 (by decide) u_X4_readNext_4 k_X4_readNext_25 rfl rfl (rfl) dX4_readNext_101 ?_
      refine vv_iconst (n := 1) X dX4_readNext_104 ?_
      refine vv_iadd X dX4_readNext_105 ?_
      refine vv_puti (Nf := 6) (ref := (TX4 3).1) X (by decide) sh_95 rfl 3 (by decide) u_X4_readNext_4 k_X4_readNext_25 rfl tyX4_ok nmX4 rfl (by decide +kernel) rfl rfl dX4_readNext_106 ?_
      obtain ⟨Mh, h_Mh⟩ : ∃ N : Mem, N = (up2 (up2 (up2 M 95 5 0) 95 4 z25) 95 3 ((M 95 3) + 1)) := ⟨_, rfl⟩
      rw [← h_Mh]
      have hEh : PE M Mh := by rw [h_Mh]; exact PE_up (by decide) (PE_up (by decide) (PE_up (by decide) hSx.1.1))
      have h3h : Mh 95 3 = ((i + 1 : Nat) : Int) := by rw [h_Mh, up2_s, hSx.2.1]; rfl
      have h5h : Mh 95 5 = ((0 : Nat) : Int) := by rw [h_Mh, up2_m _ _ _ (by decide), up2_m _ _ _ (by decide), up2_s]; rfl
      have h4h : Mh 95 4 = z25 := by rw [h_Mh, up2_m _ _ _ (by decide), up2_s]
      have hPh := PE_W hEh hP
      have eCh := PE_c hEh
      have hsn := C_lt hCn (i := i) (by omega)
      have e2h := hEh.2
      refine vv_aload_n X 0 rfl rfl dX4_readNext_109 ?_
      refine vv_callVI (As := []) (st := []) (Nf := 6) X 0 (c_X4_readDigit l D cA had Mh (i + 1) 0 (h3h) (h5h) (by rw [e2h]; omega) (hPh) (by omega)) gX4_readNext_X4_readDigit rfl (by decide +kernel) ⟨by decide, by decide⟩ (Nat.le_of_ble_eq_true rfl) ⟨by decide, by decide⟩ rfl (by decide) sh_95 rfl rfl dX4_readNext_110 (fun z110 Mc110 q_110 => ?_)
      obtain ⟨qz, qS⟩ := q_110
      rw [eCh] at qz qS
      exact vv_zret X hm (by omega) (⟨fun q => absurd q hnx, fun _ => by
        rw [es, RO_45 (by omega)]
        by_cases g : 48 ≤ cC M (i + 1) ∧ cC M (i + 1) ≤ 52
        · rw [if_pos g] at qz
          simp only [if_pos g] at qS ⊢
          rw [qz]
          refine RQ_of hEh (fun _ => by rw [h4h]; omega) (TQ_ok qS (by omega) (fun k hk => ?_) (fun q => absurd q (by decide)))
          unfold q1 uz
          (repeat' split) <;> omega
        · rw [if_neg g] at qz
          simp only [if_neg g] at qS ⊢
          rw [qz]
          exact RQ_of hEh (fun q => by cases q) (TQ_bad qS)⟩) dX4_readNext_113
    by_cases c_35_1 : z25 = 98
    · skip
      refine vv_look (tgt := 144) (off := 109) X (by omega) dX4_readNext_35 (by decide) (by rw [c_35_1]; decide) (by decide) ?_
      refine vv_aload_n X 0 rfl rfl dX4_readNext_144 ?_
      refine vv_dup X rfl dX4_readNext_145 ?_
      refine vv_geti (Nf := 6) (ref := (TX4 3).1) (z := (M 95 3)) X (by decide) sh_95 rfl 3 (by decide) u_X4_readNext_4 k_X4_readNext_25 rfl rfl (rfl) dX4_readNext_146 ?_
      refine vv_iconst (n := 1) X dX4_readNext_149 ?_
      refine vv_iadd X dX4_readNext_150 ?_
      refine vv_puti (Nf := 6) (ref := (TX4 3).1) X (by decide) sh_95 rfl 3 (by decide) u_X4_readNext_4 k_X4_readNext_25 rfl tyX4_ok nmX4 rfl (by decide +kernel) rfl rfl dX4_readNext_151 ?_
      obtain ⟨Mh, h_Mh⟩ : ∃ N : Mem, N = (up2 (up2 (up2 M 95 5 0) 95 4 z25) 95 3 ((M 95 3) + 1)) := ⟨_, rfl⟩
      rw [← h_Mh]
      have hEh : PE M Mh := by rw [h_Mh]; exact PE_up (by decide) (PE_up (by decide) (PE_up (by decide) hSx.1.1))
      have h3h : Mh 95 3 = ((i + 1 : Nat) : Int) := by rw [h_Mh, up2_s, hSx.2.1]; rfl
      have h5h : Mh 95 5 = ((0 : Nat) : Int) := by rw [h_Mh, up2_m _ _ _ (by decide), up2_m _ _ _ (by decide), up2_s]; rfl
      have h4h : Mh 95 4 = z25 := by rw [h_Mh, up2_m _ _ _ (by decide), up2_s]
      have hPh := PE_W hEh hP
      have eCh := PE_c hEh
      have hsn := C_lt hCn (i := i) (by omega)
      have e2h := hEh.2
      refine vv_iconst (n := 1) X dX4_readNext_154 ?_
      exact vv_zret X hm (by omega) (⟨fun q => absurd q hnx, fun _ => by
        rw [es, RO_98 (by omega)]
        exact RQ_of hEh (fun _ => by rw [h4h]; omega) (TQ_ok (PS_rf h3h h5h) (by omega) (fun k hk => if_neg (by omega)) (fun q => absurd q (by decide)))⟩) dX4_readNext_155
    by_cases c_35_2 : z25 = 112
    · skip
      refine vv_look (tgt := 114) (off := 79) X (by omega) dX4_readNext_35 (by decide) (by rw [c_35_2]; decide) (by decide) ?_
      refine vv_aload_n X 0 rfl rfl dX4_readNext_114 ?_
      refine vv_dup X rfl dX4_readNext_115 ?_
      refine vv_geti (Nf := 6) (ref := (TX4 3).1) (z := (M 95 3)) X (by decide) sh_95 rfl 3 (by decide) u_X4_readNext_4 k_X4_readNext_25 rfl rfl (rfl) dX4_readNext_116 ?_
      refine vv_iconst (n := 1) X dX4_readNext_119 ?_
      refine vv_iadd X dX4_readNext_120 ?_
      refine vv_puti (Nf := 6) (ref := (TX4 3).1) X (by decide) sh_95 rfl 3 (by decide) u_X4_readNext_4 k_X4_readNext_25 rfl tyX4_ok nmX4 rfl (by decide +kernel) rfl rfl dX4_readNext_121 ?_
      obtain ⟨Mh, h_Mh⟩ : ∃ N : Mem, N = (up2 (up2 (up2 M 95 5 0) 95 4 z25) 95 3 ((M 95 3) + 1)) := ⟨_, rfl⟩
      rw [← h_Mh]
      have hEh : PE M Mh := by rw [h_Mh]; exact PE_up (by decide) (PE_up (by decide) (PE_up (by decide) hSx.1.1))
      have h3h : Mh 95 3 = ((i + 1 : Nat) : Int) := by rw [h_Mh, up2_s, hSx.2.1]; rfl
      have h5h : Mh 95 5 = ((0 : Nat) : Int) := by rw [h_Mh, up2_m _ _ _ (by decide), up2_m _ _ _ (by decide), up2_s]; rfl
      have h4h : Mh 95 4 = z25 := by rw [h_Mh, up2_m _ _ _ (by decide), up2_s]
      have hPh := PE_W hEh hP
      have eCh := PE_c hEh
      have hsn := C_lt hCn (i := i) (by omega)
      have e2h := hEh.2
      refine vv_aload_n X 0 rfl rfl dX4_readNext_124 ?_
      refine vv_callVI (As := []) (st := []) (Nf := 6) X 0 (c_X4_readNumber l D cA had Mh (i + 1) 0 (h3h) (h5h) (by rw [e2h]; omega) (hPh) (by omega)) gX4_readNext_X4_readNumber rfl (by decide +kernel) ⟨by decide, by decide⟩ (Nat.le_of_ble_eq_true rfl) ⟨by decide, by decide⟩ rfl (by decide) sh_95 rfl rfl dX4_readNext_125 (fun z125 Mc125 q_125 => ?_)
      obtain ⟨qz, qS⟩ := q_125
      rw [eCh] at qz qS
      exact vv_zret X hm (by omega) (⟨fun q => absurd q hnx, fun _ => by
        rw [es, RO_112 (by omega)]
        by_cases g : (num (cC M) (i + 1)).1 < 0
        · rw [if_pos g] at qz
          simp only [if_pos g] at qS ⊢
          rw [qz]
          exact RQ_of hEh (fun q => by cases q) (TQ_bad qS)
        · rw [if_neg g] at qz
          simp only [if_neg g] at qS ⊢
          rw [qz]
          refine RQ_of hEh (fun _ => by rw [h4h]; omega) (TQ_ok qS (by omega) (fun k hk => ?_) (fun q => absurd q (by decide)))
          unfold q1 uz
          (repeat' split) <;> omega⟩) dX4_readNext_128
    by_cases c_35_3 : z25 = 114
    · skip
      refine vv_look (tgt := 84) (off := 49) X (by omega) dX4_readNext_35 (by decide) (by rw [c_35_3]; decide) (by decide) ?_
      refine vv_aload_n X 0 rfl rfl dX4_readNext_84 ?_
      refine vv_dup X rfl dX4_readNext_85 ?_
      refine vv_geti (Nf := 6) (ref := (TX4 3).1) (z := (M 95 3)) X (by decide) sh_95 rfl 3 (by decide) u_X4_readNext_4 k_X4_readNext_25 rfl rfl (rfl) dX4_readNext_86 ?_
      refine vv_iconst (n := 1) X dX4_readNext_89 ?_
      refine vv_iadd X dX4_readNext_90 ?_
      refine vv_puti (Nf := 6) (ref := (TX4 3).1) X (by decide) sh_95 rfl 3 (by decide) u_X4_readNext_4 k_X4_readNext_25 rfl tyX4_ok nmX4 rfl (by decide +kernel) rfl rfl dX4_readNext_91 ?_
      obtain ⟨Mh, h_Mh⟩ : ∃ N : Mem, N = (up2 (up2 (up2 M 95 5 0) 95 4 z25) 95 3 ((M 95 3) + 1)) := ⟨_, rfl⟩
      rw [← h_Mh]
      have hEh : PE M Mh := by rw [h_Mh]; exact PE_up (by decide) (PE_up (by decide) (PE_up (by decide) hSx.1.1))
      have h3h : Mh 95 3 = ((i + 1 : Nat) : Int) := by rw [h_Mh, up2_s, hSx.2.1]; rfl
      have h5h : Mh 95 5 = ((0 : Nat) : Int) := by rw [h_Mh, up2_m _ _ _ (by decide), up2_m _ _ _ (by decide), up2_s]; rfl
      have h4h : Mh 95 4 = z25 := by rw [h_Mh, up2_m _ _ _ (by decide), up2_s]
      have hPh := PE_W hEh hP
      have eCh := PE_c hEh
      have hsn := C_lt hCn (i := i) (by omega)
      have e2h := hEh.2
      refine vv_aload_n X 0 rfl rfl dX4_readNext_94 ?_
      refine vv_callVI (As := []) (st := []) (Nf := 6) X 0 (c_X4_readHire l D cA had Mh (i + 1) (h3h) (h5h) (by rw [e2h]; omega) (hPh)) gX4_readNext_X4_readHire rfl (by decide +kernel) ⟨by decide, by decide⟩ (Nat.le_of_ble_eq_true rfl) ⟨by decide, by decide⟩ rfl (by decide) sh_95 rfl rfl dX4_readNext_95 (fun z95 Mc95 q_95 => ?_)
      rw [eCh] at q_95
      exact vv_zret X hm (by rw [q_95.1]; split <;> omega) (⟨fun q => absurd q hnx, fun _ => by
        rw [es, RO_114 (by omega)]
        exact RQ_of hEh (fun q => by rw [h4h, HR_l q]; omega) q_95⟩) dX4_readNext_98
    by_cases c_35_4 : z25 = 115
    · skip
      refine vv_look (tgt := 129) (off := 94) X (by omega) dX4_readNext_35 (by decide) (by rw [c_35_4]; decide) (by decide) ?_
      refine vv_aload_n X 0 rfl rfl dX4_readNext_129 ?_
      refine vv_dup X rfl dX4_readNext_130 ?_
      refine vv_geti (Nf := 6) (ref := (TX4 3).1) (z := (M 95 3)) X (by decide) sh_95 rfl 3 (by decide) u_X4_readNext_4 k_X4_readNext_25 rfl rfl (rfl) dX4_readNext_131 ?_
      refine vv_iconst (n := 1) X dX4_readNext_134 ?_
      refine vv_iadd X dX4_readNext_135 ?_
      refine vv_puti (Nf := 6) (ref := (TX4 3).1) X (by decide) sh_95 rfl 3 (by decide) u_X4_readNext_4 k_X4_readNext_25 rfl tyX4_ok nmX4 rfl (by decide +kernel) rfl rfl dX4_readNext_136 ?_
      obtain ⟨Mh, h_Mh⟩ : ∃ N : Mem, N = (up2 (up2 (up2 M 95 5 0) 95 4 z25) 95 3 ((M 95 3) + 1)) := ⟨_, rfl⟩
      rw [← h_Mh]
      have hEh : PE M Mh := by rw [h_Mh]; exact PE_up (by decide) (PE_up (by decide) (PE_up (by decide) hSx.1.1))
      have h3h : Mh 95 3 = ((i + 1 : Nat) : Int) := by rw [h_Mh, up2_s, hSx.2.1]; rfl
      have h5h : Mh 95 5 = ((0 : Nat) : Int) := by rw [h_Mh, up2_m _ _ _ (by decide), up2_m _ _ _ (by decide), up2_s]; rfl
      have h4h : Mh 95 4 = z25 := by rw [h_Mh, up2_m _ _ _ (by decide), up2_s]
      have hPh := PE_W hEh hP
      have eCh := PE_c hEh
      have hsn := C_lt hCn (i := i) (by omega)
      have e2h := hEh.2
      refine vv_aload_n X 0 rfl rfl dX4_readNext_139 ?_
      refine vv_callVI (As := []) (st := []) (Nf := 6) X 0 (c_X4_readParts l D cA had Mh (i + 1) (h3h) (h5h) (by rw [e2h]; omega) (hPh)) gX4_readNext_X4_readParts rfl (by decide +kernel) ⟨by decide, by decide⟩ (Nat.le_of_ble_eq_true rfl) ⟨by decide, by decide⟩ rfl (by decide) sh_95 rfl rfl dX4_readNext_140 (fun z140 Mc140 q_140 => ?_)
      rw [eCh] at q_140
      exact vv_zret X hm (by rw [q_140.1]; split <;> omega) (⟨fun q => absurd q hnx, fun _ => by
        rw [es, RO_115 (by omega)]
        exact RQ_of hEh (fun q => by rw [h4h, PR_l q]; omega) q_140⟩) dX4_readNext_143
    refine vv_look (tgt := 156) (off := 121) X (by omega) dX4_readNext_35 (by decide) (by simp only [Op.lookupswitch.offset_cons, Op.lookupswitch.offset]; (repeat' split) <;> omega) (by decide) ?_
    refine vv_iconst (n := 0) X dX4_readNext_156 ?_
    exact vv_zret X hm (by omega) (⟨fun q => absurd q hnx, fun _ => by
      rw [es, RO_no (by omega) (by omega) (by omega) (by omega) (by omega)]
      refine ⟨rfl, PE_up (by decide) (PE_up (by decide) hSx.1.1), ?_, ⟨0, ?_⟩, fun q => by cases q⟩
      · rw [up2_m _ _ _ (by decide), up2_m _ _ _ (by decide)]
        exact hSx.2.1
      · rw [up2_m _ _ _ (by decide), up2_s]
        rfl⟩) dX4_readNext_157
  · skip
    refine vv_aload_n X 0 rfl rfl dX4_readNext_7 ?_
    refine vv_bipush (n := 59) X (by decide) dX4_readNext_8 ?_
    refine vv_callVI (As := [.int (zI 59)]) (st := []) (Nf := 6) X 1 (c_X4_skip l D cA had M 59 (by omega) i t (hi) (h5) (by omega) (by assumption)) gX4_readNext_X4_skip rfl (by decide +kernel) ⟨by decide, by decide⟩ (Nat.le_of_ble_eq_true rfl) ⟨by decide, by decide⟩ rfl (by decide) sh_95 rfl rfl dX4_readNext_10 (fun z10 Mc10 q_10 => ?_)
    obtain ⟨e_z10, hs10⟩ := q_10
    have hS10 := PS_tr hS0 hs10
    refine vv_if_ne (tgt := 18) X (by rw [e_z10]; split <;> omega) dX4_readNext_13 (by decide) (fun c_13 => ?_) (fun c_13 => ?_)
    · skip
      have hk10 : cC M i = 59 := Classical.byContradiction fun q => by rw [if_neg q] at e_z10; omega
      simp only [if_pos hk10] at hS10
      have p10 := hS10.2
      have g10 := C_lt hCn (i := i) (by omega)
      have hSx := hS10
      have es : (if 0 < i then i + 1 else i) = i + 1 := if_pos (by omega)
      have hnx : ¬ (0 < i ∧ cC M i ≠ 59) := fun q => q.2 hk10
      have hsl : i + 1 ≤ (M 95 2).toNat := by omega
      refine vv_aload_n X 0 rfl rfl dX4_readNext_18 ?_
      refine vv_iconst (n := 0) X dX4_readNext_19 ?_
      refine vv_puti (Nf := 6) (ref := (TX4 5).1) X (by decide) sh_95 rfl 5 (by decide) u_X4_readNext_4 k_X4_readNext_31 rfl tyX4_ok nmX4 rfl (by decide +kernel) rfl rfl dX4_readNext_20 ?_
      refine vv_aload_n X 0 rfl rfl dX4_readNext_23 ?_
      refine vv_aload_n X 0 rfl rfl dX4_readNext_24 ?_
      refine vv_callVI (As := []) (st := [.ref (ad 95)]) (Nf := 6) X 0 (c_X4_sign l D cA had (up2 Mc10 95 5 0) (i + 1) (by rw [up2_m _ _ _ (by decide)]; exact hSx.2.1) (by omega) (PE_W (PE_up (by decide) hSx.1.1) hP)) gX4_readNext_X4_sign rfl (by decide +kernel) ⟨by decide, by decide⟩ (Nat.le_of_ble_eq_true rfl) ⟨by decide, by decide⟩ rfl (by decide) sh_95 rfl rfl dX4_readNext_25 (fun z25 Mc25 q_25 => ?_)
      obtain ⟨e_z25, g_z25⟩ := q_25
      have g_z25 := g_z25.symm
      subst g_z25
      rw [PE_c (PE_up (by decide) hSx.1.1)] at e_z25
      have hb25 := hCb (i + 1)
      refine vv_puti (Nf := 6) (ref := (TX4 4).1) X (by decide) sh_95 rfl 4 (by decide) u_X4_readNext_4 k_X4_readNext_28 rfl tyX4_ok nmX4 rfl (by decide +kernel) rfl rfl dX4_readNext_28 ?_
      refine vv_aload_n X 0 rfl rfl dX4_readNext_31 ?_
      refine vv_geti (Nf := 6) (ref := (TX4 4).1) (z := z25) X (by decide) sh_95 rfl 4 (by decide) u_X4_readNext_4 k_X4_readNext_28 rfl rfl (rfl) dX4_readNext_32 ?_
      by_cases c_35_0 : z25 = 45
      · skip
        refine vv_look (tgt := 99) (off := 64) X (by omega) dX4_readNext_35 (by decide) (by rw [c_35_0]; decide) (by decide) ?_
        refine vv_aload_n X 0 rfl rfl dX4_readNext_99 ?_
        refine vv_dup X rfl dX4_readNext_100 ?_
        refine vv_geti (Nf := 6) (ref := (TX4 3).1) (z := (Mc10 95 3)) X (by decide) sh_95 rfl 3 (by decide) u_X4_readNext_4 k_X4_readNext_25 rfl rfl (rfl) dX4_readNext_101 ?_
        refine vv_iconst (n := 1) X dX4_readNext_104 ?_
        refine vv_iadd X dX4_readNext_105 ?_
        refine vv_puti (Nf := 6) (ref := (TX4 3).1) X (by decide) sh_95 rfl 3 (by decide) u_X4_readNext_4 k_X4_readNext_25 rfl tyX4_ok nmX4 rfl (by decide +kernel) rfl rfl dX4_readNext_106 ?_
        obtain ⟨Mh, h_Mh⟩ : ∃ N : Mem, N = (up2 (up2 (up2 Mc10 95 5 0) 95 4 z25) 95 3 ((Mc10 95 3) + 1)) := ⟨_, rfl⟩
        rw [← h_Mh]
        have hEh : PE M Mh := by rw [h_Mh]; exact PE_up (by decide) (PE_up (by decide) (PE_up (by decide) hSx.1.1))
        have h3h : Mh 95 3 = (((i + 1) + 1 : Nat) : Int) := by rw [h_Mh, up2_s, hSx.2.1]; rfl
        have h5h : Mh 95 5 = ((0 : Nat) : Int) := by rw [h_Mh, up2_m _ _ _ (by decide), up2_m _ _ _ (by decide), up2_s]; rfl
        have h4h : Mh 95 4 = z25 := by rw [h_Mh, up2_m _ _ _ (by decide), up2_s]
        have hPh := PE_W hEh hP
        have eCh := PE_c hEh
        have hsn := C_lt hCn (i := (i + 1)) (by omega)
        have e2h := hEh.2
        refine vv_aload_n X 0 rfl rfl dX4_readNext_109 ?_
        refine vv_callVI (As := []) (st := []) (Nf := 6) X 0 (c_X4_readDigit l D cA had Mh ((i + 1) + 1) 0 (h3h) (h5h) (by rw [e2h]; omega) (hPh) (by omega)) gX4_readNext_X4_readDigit rfl (by decide +kernel) ⟨by decide, by decide⟩ (Nat.le_of_ble_eq_true rfl) ⟨by decide, by decide⟩ rfl (by decide) sh_95 rfl rfl dX4_readNext_110 (fun z110 Mc110 q_110 => ?_)
        obtain ⟨qz, qS⟩ := q_110
        rw [eCh] at qz qS
        exact vv_zret X hm (by omega) (⟨fun q => absurd q hnx, fun _ => by
          rw [es, RO_45 (by omega)]
          by_cases g : 48 ≤ cC M ((i + 1) + 1) ∧ cC M ((i + 1) + 1) ≤ 52
          · rw [if_pos g] at qz
            simp only [if_pos g] at qS ⊢
            rw [qz]
            refine RQ_of hEh (fun _ => by rw [h4h]; omega) (TQ_ok qS (by omega) (fun k hk => ?_) (fun q => absurd q (by decide)))
            unfold q1 uz
            (repeat' split) <;> omega
          · rw [if_neg g] at qz
            simp only [if_neg g] at qS ⊢
            rw [qz]
            exact RQ_of hEh (fun q => by cases q) (TQ_bad qS)⟩) dX4_readNext_113
      by_cases c_35_1 : z25 = 98
      · skip
        refine vv_look (tgt := 144) (off := 109) X (by omega) dX4_readNext_35 (by decide) (by rw [c_35_1]; decide) (by decide) ?_
        refine vv_aload_n X 0 rfl rfl dX4_readNext_144 ?_
        refine vv_dup X rfl dX4_readNext_145 ?_
        refine vv_geti (Nf := 6) (ref := (TX4 3).1) (z := (Mc10 95 3)) X (by decide) sh_95 rfl 3 (by decide) u_X4_readNext_4 k_X4_readNext_25 rfl rfl (rfl) dX4_readNext_146 ?_
        refine vv_iconst (n := 1) X dX4_readNext_149 ?_
        refine vv_iadd X dX4_readNext_150 ?_
        refine vv_puti (Nf := 6) (ref := (TX4 3).1) X (by decide) sh_95 rfl 3 (by decide) u_X4_readNext_4 k_X4_readNext_25 rfl tyX4_ok nmX4 rfl (by decide +kernel) rfl rfl dX4_readNext_151 ?_
        obtain ⟨Mh, h_Mh⟩ : ∃ N : Mem, N = (up2 (up2 (up2 Mc10 95 5 0) 95 4 z25) 95 3 ((Mc10 95 3) + 1)) := ⟨_, rfl⟩
        rw [← h_Mh]
        have hEh : PE M Mh := by rw [h_Mh]; exact PE_up (by decide) (PE_up (by decide) (PE_up (by decide) hSx.1.1))
        have h3h : Mh 95 3 = (((i + 1) + 1 : Nat) : Int) := by rw [h_Mh, up2_s, hSx.2.1]; rfl
        have h5h : Mh 95 5 = ((0 : Nat) : Int) := by rw [h_Mh, up2_m _ _ _ (by decide), up2_m _ _ _ (by decide), up2_s]; rfl
        have h4h : Mh 95 4 = z25 := by rw [h_Mh, up2_m _ _ _ (by decide), up2_s]
        have hPh := PE_W hEh hP
        have eCh := PE_c hEh
        have hsn := C_lt hCn (i := (i + 1)) (by omega)
        have e2h := hEh.2
        refine vv_iconst (n := 1) X dX4_readNext_154 ?_
        exact vv_zret X hm (by omega) (⟨fun q => absurd q hnx, fun _ => by
          rw [es, RO_98 (by omega)]
          exact RQ_of hEh (fun _ => by rw [h4h]; omega) (TQ_ok (PS_rf h3h h5h) (by omega) (fun k hk => if_neg (by omega)) (fun q => absurd q (by decide)))⟩) dX4_readNext_155
      by_cases c_35_2 : z25 = 112
      · skip
        refine vv_look (tgt := 114) (off := 79) X (by omega) dX4_readNext_35 (by decide) (by rw [c_35_2]; decide) (by decide) ?_
        refine vv_aload_n X 0 rfl rfl dX4_readNext_114 ?_
        refine vv_dup X rfl dX4_readNext_115 ?_
        refine vv_geti (Nf := 6) (ref := (TX4 3).1) (z := (Mc10 95 3)) X (by decide) sh_95 rfl 3 (by decide) u_X4_readNext_4 k_X4_readNext_25 rfl rfl (rfl) dX4_readNext_116 ?_
        refine vv_iconst (n := 1) X dX4_readNext_119 ?_
        refine vv_iadd X dX4_readNext_120 ?_
        refine vv_puti (Nf := 6) (ref := (TX4 3).1) X (by decide) sh_95 rfl 3 (by decide) u_X4_readNext_4 k_X4_readNext_25 rfl tyX4_ok nmX4 rfl (by decide +kernel) rfl rfl dX4_readNext_121 ?_
        obtain ⟨Mh, h_Mh⟩ : ∃ N : Mem, N = (up2 (up2 (up2 Mc10 95 5 0) 95 4 z25) 95 3 ((Mc10 95 3) + 1)) := ⟨_, rfl⟩
        rw [← h_Mh]
        have hEh : PE M Mh := by rw [h_Mh]; exact PE_up (by decide) (PE_up (by decide) (PE_up (by decide) hSx.1.1))
        have h3h : Mh 95 3 = (((i + 1) + 1 : Nat) : Int) := by rw [h_Mh, up2_s, hSx.2.1]; rfl
        have h5h : Mh 95 5 = ((0 : Nat) : Int) := by rw [h_Mh, up2_m _ _ _ (by decide), up2_m _ _ _ (by decide), up2_s]; rfl
        have h4h : Mh 95 4 = z25 := by rw [h_Mh, up2_m _ _ _ (by decide), up2_s]
        have hPh := PE_W hEh hP
        have eCh := PE_c hEh
        have hsn := C_lt hCn (i := (i + 1)) (by omega)
        have e2h := hEh.2
        refine vv_aload_n X 0 rfl rfl dX4_readNext_124 ?_
        refine vv_callVI (As := []) (st := []) (Nf := 6) X 0 (c_X4_readNumber l D cA had Mh ((i + 1) + 1) 0 (h3h) (h5h) (by rw [e2h]; omega) (hPh) (by omega)) gX4_readNext_X4_readNumber rfl (by decide +kernel) ⟨by decide, by decide⟩ (Nat.le_of_ble_eq_true rfl) ⟨by decide, by decide⟩ rfl (by decide) sh_95 rfl rfl dX4_readNext_125 (fun z125 Mc125 q_125 => ?_)
        obtain ⟨qz, qS⟩ := q_125
        rw [eCh] at qz qS
        exact vv_zret X hm (by omega) (⟨fun q => absurd q hnx, fun _ => by
          rw [es, RO_112 (by omega)]
          by_cases g : (num (cC M) ((i + 1) + 1)).1 < 0
          · rw [if_pos g] at qz
            simp only [if_pos g] at qS ⊢
            rw [qz]
            exact RQ_of hEh (fun q => by cases q) (TQ_bad qS)
          · rw [if_neg g] at qz
            simp only [if_neg g] at qS ⊢
            rw [qz]
            refine RQ_of hEh (fun _ => by rw [h4h]; omega) (TQ_ok qS (by omega) (fun k hk => ?_) (fun q => absurd q (by decide)))
            unfold q1 uz
            (repeat' split) <;> omega⟩) dX4_readNext_128
      by_cases c_35_3 : z25 = 114
      · skip
        refine vv_look (tgt := 84) (off := 49) X (by omega) dX4_readNext_35 (by decide) (by rw [c_35_3]; decide) (by decide) ?_
        refine vv_aload_n X 0 rfl rfl dX4_readNext_84 ?_
        refine vv_dup X rfl dX4_readNext_85 ?_
        refine vv_geti (Nf := 6) (ref := (TX4 3).1) (z := (Mc10 95 3)) X (by decide) sh_95 rfl 3 (by decide) u_X4_readNext_4 k_X4_readNext_25 rfl rfl (rfl) dX4_readNext_86 ?_
        refine vv_iconst (n := 1) X dX4_readNext_89 ?_
        refine vv_iadd X dX4_readNext_90 ?_
        refine vv_puti (Nf := 6) (ref := (TX4 3).1) X (by decide) sh_95 rfl 3 (by decide) u_X4_readNext_4 k_X4_readNext_25 rfl tyX4_ok nmX4 rfl (by decide +kernel) rfl rfl dX4_readNext_91 ?_
        obtain ⟨Mh, h_Mh⟩ : ∃ N : Mem, N = (up2 (up2 (up2 Mc10 95 5 0) 95 4 z25) 95 3 ((Mc10 95 3) + 1)) := ⟨_, rfl⟩
        rw [← h_Mh]
        have hEh : PE M Mh := by rw [h_Mh]; exact PE_up (by decide) (PE_up (by decide) (PE_up (by decide) hSx.1.1))
        have h3h : Mh 95 3 = (((i + 1) + 1 : Nat) : Int) := by rw [h_Mh, up2_s, hSx.2.1]; rfl
        have h5h : Mh 95 5 = ((0 : Nat) : Int) := by rw [h_Mh, up2_m _ _ _ (by decide), up2_m _ _ _ (by decide), up2_s]; rfl
        have h4h : Mh 95 4 = z25 := by rw [h_Mh, up2_m _ _ _ (by decide), up2_s]
        have hPh := PE_W hEh hP
        have eCh := PE_c hEh
        have hsn := C_lt hCn (i := (i + 1)) (by omega)
        have e2h := hEh.2
        refine vv_aload_n X 0 rfl rfl dX4_readNext_94 ?_
        refine vv_callVI (As := []) (st := []) (Nf := 6) X 0 (c_X4_readHire l D cA had Mh ((i + 1) + 1) (h3h) (h5h) (by rw [e2h]; omega) (hPh)) gX4_readNext_X4_readHire rfl (by decide +kernel) ⟨by decide, by decide⟩ (Nat.le_of_ble_eq_true rfl) ⟨by decide, by decide⟩ rfl (by decide) sh_95 rfl rfl dX4_readNext_95 (fun z95 Mc95 q_95 => ?_)
        rw [eCh] at q_95
        exact vv_zret X hm (by rw [q_95.1]; split <;> omega) (⟨fun q => absurd q hnx, fun _ => by
          rw [es, RO_114 (by omega)]
          exact RQ_of hEh (fun q => by rw [h4h, HR_l q]; omega) q_95⟩) dX4_readNext_98
      by_cases c_35_4 : z25 = 115
      · skip
        refine vv_look (tgt := 129) (off := 94) X (by omega) dX4_readNext_35 (by decide) (by rw [c_35_4]; decide) (by decide) ?_
        refine vv_aload_n X 0 rfl rfl dX4_readNext_129 ?_
        refine vv_dup X rfl dX4_readNext_130 ?_
        refine vv_geti (Nf := 6) (ref := (TX4 3).1) (z := (Mc10 95 3)) X (by decide) sh_95 rfl 3 (by decide) u_X4_readNext_4 k_X4_readNext_25 rfl rfl (rfl) dX4_readNext_131 ?_
        refine vv_iconst (n := 1) X dX4_readNext_134 ?_
        refine vv_iadd X dX4_readNext_135 ?_
        refine vv_puti (Nf := 6) (ref := (TX4 3).1) X (by decide) sh_95 rfl 3 (by decide) u_X4_readNext_4 k_X4_readNext_25 rfl tyX4_ok nmX4 rfl (by decide +kernel) rfl rfl dX4_readNext_136 ?_
        obtain ⟨Mh, h_Mh⟩ : ∃ N : Mem, N = (up2 (up2 (up2 Mc10 95 5 0) 95 4 z25) 95 3 ((Mc10 95 3) + 1)) := ⟨_, rfl⟩
        rw [← h_Mh]
        have hEh : PE M Mh := by rw [h_Mh]; exact PE_up (by decide) (PE_up (by decide) (PE_up (by decide) hSx.1.1))
        have h3h : Mh 95 3 = (((i + 1) + 1 : Nat) : Int) := by rw [h_Mh, up2_s, hSx.2.1]; rfl
        have h5h : Mh 95 5 = ((0 : Nat) : Int) := by rw [h_Mh, up2_m _ _ _ (by decide), up2_m _ _ _ (by decide), up2_s]; rfl
        have h4h : Mh 95 4 = z25 := by rw [h_Mh, up2_m _ _ _ (by decide), up2_s]
        have hPh := PE_W hEh hP
        have eCh := PE_c hEh
        have hsn := C_lt hCn (i := (i + 1)) (by omega)
        have e2h := hEh.2
        refine vv_aload_n X 0 rfl rfl dX4_readNext_139 ?_
        refine vv_callVI (As := []) (st := []) (Nf := 6) X 0 (c_X4_readParts l D cA had Mh ((i + 1) + 1) (h3h) (h5h) (by rw [e2h]; omega) (hPh)) gX4_readNext_X4_readParts rfl (by decide +kernel) ⟨by decide, by decide⟩ (Nat.le_of_ble_eq_true rfl) ⟨by decide, by decide⟩ rfl (by decide) sh_95 rfl rfl dX4_readNext_140 (fun z140 Mc140 q_140 => ?_)
        rw [eCh] at q_140
        exact vv_zret X hm (by rw [q_140.1]; split <;> omega) (⟨fun q => absurd q hnx, fun _ => by
          rw [es, RO_115 (by omega)]
          exact RQ_of hEh (fun q => by rw [h4h, PR_l q]; omega) q_140⟩) dX4_readNext_143
      refine vv_look (tgt := 156) (off := 121) X (by omega) dX4_readNext_35 (by decide) (by simp only [Op.lookupswitch.offset_cons, Op.lookupswitch.offset]; (repeat' split) <;> omega) (by decide) ?_
      refine vv_iconst (n := 0) X dX4_readNext_156 ?_
      exact vv_zret X hm (by omega) (⟨fun q => absurd q hnx, fun _ => by
        rw [es, RO_no (by omega) (by omega) (by omega) (by omega) (by omega)]
        refine ⟨rfl, PE_up (by decide) (PE_up (by decide) hSx.1.1), ?_, ⟨0, ?_⟩, fun q => by cases q⟩
        · rw [up2_m _ _ _ (by decide), up2_m _ _ _ (by decide)]
          exact hSx.2.1
        · rw [up2_m _ _ _ (by decide), up2_s]
          rfl⟩) dX4_readNext_157
    · skip
      have hk10 : ¬ cC M i = 59 := fun q => by rw [if_pos q] at e_z10; omega
      simp only [if_neg hk10] at hS10
      have p10 := hS10.2
      refine vv_iconst (n := 0) X dX4_readNext_16 ?_
      exact vv_zret X hm (by omega) (⟨fun _ => ⟨rfl, hS10.1.1, hS10.2.1, ⟨t, hS10.2.2.1⟩⟩, fun q => absurd ⟨by omega, hk10⟩ q⟩) dX4_readNext_17
theorem u_X4_firstFault_4 : ∀ w ∈ u_ws RX4 TX4 6, w ∈ wsX4_firstFault := by decide +kernel
theorem k_X4_firstFault_21 : Cond.fieldLink yX4_firstFault.cls 21 (TX4 2).1 (TX4 2).2.1 (TX4 2).2.2.1 ∈ wsX4_firstFault := by decide +kernel
theorem k_X4_firstFault_25 : Cond.fieldLink yX4_firstFault.cls 25 (TX4 3).1 (TX4 3).2.1 (TX4 3).2.2.1 ∈ wsX4_firstFault := by decide +kernel
set_option maxRecDepth 100000 in
set_option maxHeartbeats 4000000 in
theorem c_X4_firstFault (l : Launch) (D : va_G) {ad : Nat → Nat} (cA : Nat → ClassId) (had : adok ad) (M : Mem) (t : Nat) (h5 : M 95 5 = (t : Int)) (hP : PW M) : CtI l yX4_firstFault wsX4_firstFault 4 83 D ad cA [.ref (ad 95)] M (fun z M1 => z = FT (cC M) (M 95 2).toNat 80 0 ∧ PE M M1 ∧ ∃ t : Nat, M1 95 5 = (t : Int)) := by
  refine CtI.of (cc := cX4_firstFault) (maxL := 2) (ret := (some .int)) had (by decide) rfl (Nat.le_of_ble_eq_true rfl) ?_
  intro p e s m args below meth c X hm
  show VV p l e { frames := 4, cells := 0, slots := 0, locals := 83 } s m args below meth c 2 D ad cA (Afr ad s.heap.size) 0 0 (QI below args s D ad cA (fun z M1 => z = FT (cC M) (M 95 2).toNat 80 0 ∧ PE M M1 ∧ ∃ t : Nat, M1 95 5 = (t : Int))) M 0 [(0, .ref (ad 95))] []
  have hl := hP.1
  have hCn := cC_n hP
  refine vv_aload_n X 0 rfl rfl dX4_firstFault_0 ?_
  refine vv_iconst (n := 0) X dX4_firstFault_1 ?_
  refine vv_puti (Nf := 6) (ref := (TX4 3).1) X (by decide) sh_95 rfl 3 (by decide) u_X4_firstFault_4 k_X4_firstFault_25 rfl tyX4_ok nmX4 rfl (by decide +kernel) rfl rfl dX4_firstFault_2 ?_
  refine vv_iconst (n := 0) X dX4_firstFault_5 ?_
  refine vv_istore_n (lv' := [(1, .int (zI 0)), (0, .ref (ad 95))]) X rfl (by decide) rfl dX4_firstFault_6 ?_
  have loop_7 : ∀ (n : Nat) (M_7 : Mem) (k : Nat) (j : Nat) (a1 : Int), a1 = (k : Int) → PE M M_7 → (∃ t : Nat, M_7 95 5 = (t : Int)) → M_7 95 3 = (j : Int) → j ≤ (M 95 2).toNat → 2 * k ≤ j + 1 → FI (cC M) (M 95 2).toNat k j (FT (cC M) (M 95 2).toNat 80 0) → 80 - k < n → VV p l e { frames := 4, cells := 0, slots := 0, locals := 83 } s m args below meth c 2 D ad cA (Afr ad s.heap.size) 0 0 (QI below args s D ad cA (fun z M1 => z = FT (cC M) (M 95 2).toNat 80 0 ∧ PE M M1 ∧ ∃ t : Nat, M1 95 5 = (t : Int))) M_7 7 [(0, .ref (ad 95)), (1, .int (zI a1))] [] := by
    intro n
    induction n with
    | zero => intro M_7 k j a1 h1 hE hT h3 hj hjk hI hn; exact absurd hn (Nat.not_lt_zero _)
    | succ n ih_7 =>
      intro M_7 k j a1 h1 hE hT h3 hj hjk hI hn
      obtain ⟨t7, ht7⟩ := hT
      have hPj := PE_W hE hP
      have eC := PE_c hE
      have e2 := hE.2
      refine vv_iload_n X 1 rfl rfl dX4_firstFault_7 ?_
      refine vv_bipush (n := 80) X (by decide) dX4_firstFault_8 ?_
      refine vv_icmp_ge (tgt := 45) X (by omega) (by omega) dX4_firstFault_10 (by decide) (fun c_10 => ?_) (fun c_10 => ?_)
      · skip
        omega
      · skip
        refine vv_aload_n X 0 rfl rfl dX4_firstFault_13 ?_
        refine vv_callVI (As := []) (st := []) (Nf := 6) X 0 (c_X4_readNext l D cA had M_7 j t7 (h3) (ht7) (by rw [e2]; omega) (hPj)) gX4_firstFault_X4_readNext rfl (by decide +kernel) ⟨by decide, by decide⟩ (Nat.le_of_ble_eq_true rfl) ⟨by decide, by decide⟩ rfl (by decide) sh_95 rfl rfl dX4_firstFault_14 (fun z14 Mc14 q_14 => ?_)
        rw [eC] at q_14
        obtain ⟨f1, f2, j1, f3, f3n, f4⟩ := FI_step hCn (by omega) hjk hI q_14
        have e14 := f1.2
        have hz14 : 0 ≤ z14 ∧ z14 ≤ 1 := by rcases f4 with ⟨a, b⟩ | ⟨a, b, c, d⟩ <;> omega
        refine vv_if_ne (tgt := 25) X (by omega) dX4_firstFault_17 (by decide) (fun c_17 => ?_) (fun c_17 => ?_)
        · skip
          refine vv_aload_n X 0 rfl rfl dX4_firstFault_25 ?_
          refine vv_geti (Nf := 6) (ref := (TX4 3).1) (z := (Mc14 95 3)) X (by decide) sh_95 rfl 3 (by decide) u_X4_firstFault_4 k_X4_firstFault_25 rfl rfl (rfl) dX4_firstFault_26 ?_
          refine vv_aload_n X 0 rfl rfl dX4_firstFault_29 ?_
          refine vv_geti (Nf := 6) (ref := (TX4 2).1) (z := (Mc14 95 2)) X (by decide) sh_95 rfl 2 (by decide) u_X4_firstFault_4 k_X4_firstFault_21 rfl rfl (rfl) dX4_firstFault_30 ?_
          refine vv_icmp_lt (tgt := 39) X (by omega) (by omega) dX4_firstFault_33 (by decide) (fun c_33 => ?_) (fun c_33 => ?_)
          · skip
            refine vv_iinc (lv' := [(1, .int (zI (a1 + 1))), (0, .ref (ad 95))]) X 1 rfl (by decide) rfl dX4_firstFault_39 ?_
            refine vv_goto (tgt := 7) X (by decide) dX4_firstFault_42 ?_
            refine vv_sub (lv' := [(0, .ref (ad 95)), (1, .int (zI (a1 + 1)))]) [1, 0] rfl ?_
            exact ih_7 Mc14 (k + 1) j1 (a1 + 1) (by omega) (PE_tr hE f1) f2 f3 (by omega) (by rcases f4 with ⟨a, b⟩ | ⟨a, b, c, d⟩ <;> omega) (by
              rcases f4 with ⟨a, b⟩ | ⟨a, b, c, d⟩
              · omega
              · exact c (by omega)) (by omega)
          · skip
            refine vv_bipush (n := (-6)) X (by decide) dX4_firstFault_36 ?_
            exact vv_iret X hm (by
              rcases f4 with ⟨a, b⟩ | ⟨a, b, c, d⟩
              · omega
              · exact ⟨(b (by omega)).symm, PE_tr hE f1, f2⟩) dX4_firstFault_38
        · skip
          refine vv_aload_n X 0 rfl rfl dX4_firstFault_20 ?_
          refine vv_geti (Nf := 6) (ref := (TX4 3).1) (z := (Mc14 95 3)) X (by decide) sh_95 rfl 3 (by decide) u_X4_firstFault_4 k_X4_firstFault_25 rfl rfl (rfl) dX4_firstFault_21 ?_
          exact vv_iret X hm (by
            rcases f4 with ⟨a, b⟩ | ⟨a, b, c, d⟩
            · exact ⟨by rw [b]; exact f3, PE_tr hE f1, f2⟩
            · omega) dX4_firstFault_24
  refine vv_sub (lv' := [(0, .ref (ad 95)), (1, .int (zI 0))]) [1, 0] rfl ?_
  exact loop_7 _ (up2 M 95 3 0) 0 0 0 rfl (PE_up (by decide) (PE_rf M)) ⟨t, by rw [up2_m _ _ _ (by decide)]; exact h5⟩ (by rw [up2_s]; rfl) (by omega) (by omega) (Or.inl ⟨rfl, rfl, rfl⟩) (Nat.lt_succ_self _)
theorem u_X8_fault_8 : ∀ w ∈ u_ws RX8 TX8 9, w ∈ wsX8_fault := by decide +kernel
theorem k_X8_fault_34 : Cond.fieldLink yX8_fault.cls 34 (TX8 4).1 (TX8 4).2.1 (TX8 4).2.2.1 ∈ wsX8_fault := by decide +kernel
set_option maxRecDepth 100000 in
set_option maxHeartbeats 4000000 in
theorem c_X8_fault (l : Launch) (D : va_G) {ad : Nat → Nat} (cA : Nat → ClassId) (had : adok ad) (M : Mem) (t : Nat) (h5 : M 95 5 = (t : Int)) (hP : PW M) : CtI l yX8_fault wsX8_fault 5 104 D ad cA [.ref (ad 90)] M (fun z M1 => z = FT (cC M) (M 95 2).toNat 80 0 ∧ PE M M1 ∧ ∃ t : Nat, M1 95 5 = (t : Int)) := by
  refine CtI.of (cc := cX8_fault) (maxL := 1) (ret := (some .int)) had (by decide) rfl (Nat.le_of_ble_eq_true rfl) ?_
  intro p e s m args below meth c X hm
  show VV p l e { frames := 5, cells := 0, slots := 0, locals := 104 } s m args below meth c 1 D ad cA (Afr ad s.heap.size) 0 0 (QI below args s D ad cA (fun z M1 => z = FT (cC M) (M 95 2).toNat 80 0 ∧ PE M M1 ∧ ∃ t : Nat, M1 95 5 = (t : Int))) M 0 [(0, .ref (ad 90))] []
  refine vv_aload_n X 0 rfl rfl dX8_fault_0 ?_
  refine vv_getr (Nf := 9) (ref := (TX8 4).1) X (by decide) sh_90 rfl 4 (by decide) u_X8_fault_8 k_X8_fault_34 rfl rfl dX8_fault_1 ?_
  refine vv_callVI (As := []) (st := []) (Nf := 6) X 0 (c_X4_firstFault l D cA had M t (h5) (by assumption)) gX8_fault_X4_firstFault rfl (by decide +kernel) ⟨by decide, by decide⟩ (Nat.le_of_ble_eq_true rfl) ⟨by decide, by decide⟩ rfl (by decide) sh_95 rfl rfl dX8_fault_4 (fun z4 Mc4 q_4 => ?_)
  exact vv_iret X hm (q_4) dX8_fault_7
theorem u_X4_number_any_4 : ∀ w ∈ u_ws RX4 TX4 6, w ∈ wsX4_number := by decide +kernel
theorem k_X4_number_any_17 : Cond.fieldLink yX4_number.cls 17 (TX4 1).1 (TX4 1).2.1 (TX4 1).2.2.1 ∈ wsX4_number := by decide +kernel
theorem k_X4_number_any_31 : Cond.fieldLink yX4_number.cls 31 (TX4 5).1 (TX4 5).2.1 (TX4 5).2.2.1 ∈ wsX4_number := by decide +kernel
set_option maxRecDepth 100000 in
set_option maxHeartbeats 4000000 in
theorem c_X4_number_any (l : Launch) (D : va_G) {ad : Nat → Nat} (cA : Nat → ClassId) (had : adok ad) (M : Mem) (r : Int) (t : Nat) (hr : 0 ≤ r ∧ r < 12) (h5 : M 95 5 = (t : Int)) (ht : t ≤ 12) : CtI l yX4_number wsX4_number 0 0 D ad cA [.ref (ad 95), .int (zI r)] M (fun z M1 => z = (if r.toNat < t then M 97 r.toNat else 0) ∧ M1 = M) := by
  refine CtI.of (cc := cX4_number) (maxL := 2) (ret := (some .int)) had (by decide) rfl (Nat.le_of_ble_eq_true rfl) ?_
  intro p e s m args below meth c X hm
  show VV p l e { frames := 0, cells := 0, slots := 0, locals := 0 } s m args below meth c 2 D ad cA (Afr ad s.heap.size) 0 0 (QI below args s D ad cA (fun z M1 => z = (if r.toNat < t then M 97 r.toNat else 0) ∧ M1 = M)) M 0 [(0, .ref (ad 95)), (1, .int (zI r))] []
  refine vv_iload_n X 1 rfl rfl dX4_number_0 ?_
  refine vv_if_lt (tgt := 30) X (by omega) dX4_number_1 (by decide) (fun c_1 => ?_) (fun c_1 => ?_)
  · skip
    omega
  · skip
    refine vv_iload_n X 1 rfl rfl dX4_number_4 ?_
    refine vv_aload_n X 0 rfl rfl dX4_number_5 ?_
    refine vv_geti (Nf := 6) (ref := (TX4 5).1) (z := (M 95 5)) X (by decide) sh_95 rfl 5 (by decide) u_X4_number_any_4 k_X4_number_any_31 rfl rfl (rfl) dX4_number_6 ?_
    refine vv_icmp_ge (tgt := 30) X (by omega) (by omega) dX4_number_9 (by decide) (fun c_9 => ?_) (fun c_9 => ?_)
    · skip
      refine vv_iconst (n := 0) X dX4_number_30 ?_
      exact vv_iret X hm (⟨by first | rw [if_neg (by omega)] | rw [if_pos (by omega)], rfl⟩) dX4_number_31
    · skip
      refine vv_iload_n X 1 rfl rfl dX4_number_12 ?_
      refine vv_aload_n X 0 rfl rfl dX4_number_13 ?_
      refine vv_getr (Nf := 6) (ref := (TX4 1).1) X (by decide) sh_95 rfl 1 (by decide) u_X4_number_any_4 k_X4_number_any_17 rfl rfl dX4_number_14 ?_
      refine vv_alen X (by decide) sh_97 rfl (by decide) dX4_number_17 ?_
      refine vv_icmp_ge (tgt := 30) X (by omega) (by omega) dX4_number_18 (by decide) (fun c_18 => ?_) (fun c_18 => ?_)
      · skip
        omega
      · skip
        refine vv_aload_n X 0 rfl rfl dX4_number_21 ?_
        refine vv_getr (Nf := 6) (ref := (TX4 1).1) X (by decide) sh_95 rfl 1 (by decide) u_X4_number_any_4 k_X4_number_any_17 rfl rfl dX4_number_22 ?_
        refine vv_iload_n X 1 rfl rfl dX4_number_25 ?_
        refine vv_iald (z := (M 97 (Int.toNat r))) X (by decide) sh_97 (by decide) (by omega) (rfl) dX4_number_26 ?_
        refine vv_goto (tgt := 31) X (by decide) dX4_number_27 ?_
        exact vv_iret X hm (⟨by first | rw [if_neg (by omega)] | rw [if_pos (by omega)], rfl⟩) dX4_number_31
theorem u_X8_obey_4 : ∀ w ∈ u_ws RX4 TX4 6, w ∈ wsX8_obey := by decide +kernel
theorem u_X8_obey_7 : ∀ w ∈ u_ws RX7 TX7 3, w ∈ wsX8_obey := by decide +kernel
theorem u_X8_obey_8 : ∀ w ∈ u_ws RX8 TX8 9, w ∈ wsX8_obey := by decide +kernel
theorem k_X8_obey_10 : Cond.fieldLink yX8_obey.cls 10 (TX8 0).1 (TX8 0).2.1 (TX8 0).2.2.1 ∈ wsX8_obey := by decide +kernel
theorem k_X8_obey_34 : Cond.fieldLink yX8_obey.cls 34 (TX8 4).1 (TX8 4).2.1 (TX8 4).2.2.1 ∈ wsX8_obey := by decide +kernel
theorem k_X8_obey_73 : Cond.fieldLink yX8_obey.cls 73 (TX7 0).1 (TX7 0).2.1 (TX7 0).2.2.1 ∈ wsX8_obey := by decide +kernel
theorem k_X8_obey_282 : Cond.fieldLink yX8_obey.cls 282 (TX4 4).1 (TX4 4).2.1 (TX4 4).2.2.1 ∈ wsX8_obey := by decide +kernel
set_option maxRecDepth 100000 in
set_option maxHeartbeats 4000000 in
theorem c_X8_obey (l : Launch) (D : va_G) {ad : Nat → Nat} (cA : Nat → ClassId) (had : adok ad) (M : Mem) (n i : Nat) (r : TR) (hr : TRW n i r) (ho : r.1 = true) (h4 : M 95 4 = r.2.2.1) (hN : TN M r) (hw : WF (vC M 0)) : CtI l yX8_obey wsX8_obey 5 111 D ad cA [.ref (ad 90)] M (fun z M1 => opO r (vC M 0) z (vC M1 0) ∧ eqx M M1 [0, 1, 2, 3, 4, 5, 6, 7, 8, 99, 100, 101, 102]) := by
  refine CtI.of (cc := cX8_obey) (maxL := 1) (ret := (some .int)) had (by decide) rfl (Nat.le_of_ble_eq_true rfl) ?_
  intro p e s m args below meth c X hm
  show VV p l e { frames := 5, cells := 0, slots := 0, locals := 111 } s m args below meth c 1 D ad cA (Afr ad s.heap.size) 0 0 (QI below args s D ad cA (fun z M1 => opO r (vC M 0) z (vC M1 0) ∧ eqx M M1 [0, 1, 2, 3, 4, 5, 6, 7, 8, 99, 100, 101, 102])) M 0 [(0, .ref (ad 90))] []
  have hsm : 1 ≤ M 6 2 ∧ M 6 2 ≤ 6 := WFs_pos hw.2.2
  have hwb : ∀ k : Nat, (k : Int) < M 6 2 → (1 ≤ M 7 k ∧ M 7 k ≤ 999) ∧ (0 ≤ M 8 k ∧ M 8 k ≤ 100) := fun k hk => WFs_b hw.2.2 hk
  have hW : cWR M := hw.2.1
  have hn5 : 0 ≤ M 1 4 ∧ M 1 4 ≤ 5 := by
    have q1 := hW.2.1
    have q2 := hW.1
    omega
  have hp9 : 1 ≤ M 0 2 ∧ M 0 2 ≤ 99 := hw.1
  obtain ⟨t, ht5, ht12, hfn, h115⟩ := hN
  obtain ⟨w1, w2, w3⟩ := hr.2 ho
  refine vv_aload_n X 0 rfl rfl dX8_obey_0 ?_
  refine vv_getr (Nf := 9) (ref := (TX8 4).1) X (by decide) sh_90 rfl 4 (by decide) u_X8_obey_8 k_X8_obey_34 rfl rfl dX8_obey_1 ?_
  refine vv_geti (Nf := 6) (ref := (TX4 4).1) (z := (M 95 4)) X (by decide) sh_95 rfl 4 (by decide) u_X8_obey_4 k_X8_obey_282 rfl rfl (rfl) dX8_obey_4 ?_
  by_cases c_7_0 : (M 95 4) = 45
  · skip
    refine vv_look (tgt := 99) (off := 92) X (by rw [h4]; omega) dX8_obey_7 (by decide) (by rw [c_7_0]; decide) (by decide) ?_
    refine vv_aload_n X 0 rfl rfl dX8_obey_99 ?_
    refine vv_getr (Nf := 9) (ref := (TX8 0).1) X (by decide) sh_90 rfl 0 (by decide) u_X8_obey_8 k_X8_obey_10 rfl rfl dX8_obey_100 ?_
    refine vv_getr (Nf := 3) (ref := (TX7 0).1) X (by decide) sh_0 rfl 0 (by decide) u_X8_obey_7 k_X8_obey_73 rfl rfl dX8_obey_103 ?_
    refine vv_aload_n X 0 rfl rfl dX8_obey_106 ?_
    refine vv_getr (Nf := 9) (ref := (TX8 4).1) X (by decide) sh_90 rfl 4 (by decide) u_X8_obey_8 k_X8_obey_34 rfl rfl dX8_obey_107 ?_
    refine vv_iconst (n := 0) X dX8_obey_110 ?_
    refine vv_callVI (As := [.int (zI 0)]) (st := [.ref (ad 1)]) (Nf := 6) X 1 (c_X4_number_any l D cA had M 0 t (by omega) (ht5) (by omega)) gX8_obey_X4_number rfl (by decide +kernel) ⟨by decide, by decide⟩ (Nat.le_of_ble_eq_true rfl) ⟨by decide, by decide⟩ rfl (by decide) sh_95 rfl rfl dX8_obey_111 (fun z111 Mc111 q_111 => ?_)
    obtain ⟨e_z111, g_z111⟩ := q_111
    have g_z111 := g_z111.symm
    subst g_z111
    have ez111 : z111 = r.2.2.2.1 0 := e_z111.trans (hfn 0 (by omega))
    have er111 := w1 0
    refine vv_callVI (As := [.int (zI z111)]) (st := []) (Nf := 5) X 1 (c_X5_remove l D cA had M z111 (by omega) (by omega)) gX8_obey_X5_remove rfl (by decide +kernel) ⟨by decide, by decide⟩ (Nat.le_of_ble_eq_true rfl) ⟨by decide, by decide⟩ rfl (by decide) sh_1 rfl rfl dX8_obey_114 (fun z114 Mc114 q_114 => ?_)
    obtain ⟨hO, hE⟩ := opD_of q_114
    rw [ez111] at hO
    exact vv_iret X hm (⟨⟨fun q => by exfalso; omega, fun q => by first | (exfalso; omega) | exact hO, fun q => by exfalso; omega, fun q => by exfalso; omega, fun q => by exfalso; omega⟩, eqx_mono hE (by decide)⟩) dX8_obey_117
  by_cases c_7_1 : (M 95 4) = 98
  · skip
    refine vv_look (tgt := 139) (off := 132) X (by rw [h4]; omega) dX8_obey_7 (by decide) (by rw [c_7_1]; decide) (by decide) ?_
    refine vv_aload_n X 0 rfl rfl dX8_obey_139 ?_
    refine vv_callVI (As := []) (st := []) (Nf := 9) X 0 (c_X8_takeBest l D cA had M (hp9) (hW)) gX8_obey_X8_takeBest rfl (by decide +kernel) ⟨by decide, by decide⟩ (Nat.le_of_ble_eq_true rfl) ⟨by decide, by decide⟩ rfl (by decide) sh_90 rfl rfl dX8_obey_140 (fun z140 Mc140 q_140 => ?_)
    obtain ⟨hO, hE⟩ := q_140
    exact vv_iret X hm (⟨⟨fun q => by exfalso; omega, fun q => by exfalso; omega, fun q => by exfalso; omega, fun q => by exfalso; omega, fun q => by first | (exfalso; omega) | exact hO⟩, eqx_mono hE (by decide)⟩) dX8_obey_143
  by_cases c_7_2 : (M 95 4) = 112
  · skip
    refine vv_look (tgt := 118) (off := 111) X (by rw [h4]; omega) dX8_obey_7 (by decide) (by rw [c_7_2]; decide) (by decide) ?_
    refine vv_aload_n X 0 rfl rfl dX8_obey_118 ?_
    refine vv_getr (Nf := 9) (ref := (TX8 0).1) X (by decide) sh_90 rfl 0 (by decide) u_X8_obey_8 k_X8_obey_10 rfl rfl dX8_obey_119 ?_
    refine vv_aload_n X 0 rfl rfl dX8_obey_122 ?_
    refine vv_getr (Nf := 9) (ref := (TX8 4).1) X (by decide) sh_90 rfl 4 (by decide) u_X8_obey_8 k_X8_obey_34 rfl rfl dX8_obey_123 ?_
    refine vv_iconst (n := 0) X dX8_obey_126 ?_
    refine vv_callVI (As := [.int (zI 0)]) (st := [.ref (ad 0)]) (Nf := 6) X 1 (c_X4_number_any l D cA had M 0 t (by omega) (ht5) (by omega)) gX8_obey_X4_number rfl (by decide +kernel) ⟨by decide, by decide⟩ (Nat.le_of_ble_eq_true rfl) ⟨by decide, by decide⟩ rfl (by decide) sh_95 rfl rfl dX8_obey_127 (fun z127 Mc127 q_127 => ?_)
    obtain ⟨e_z127, g_z127⟩ := q_127
    have g_z127 := g_z127.symm
    subst g_z127
    have ez127 : z127 = r.2.2.2.1 0 := e_z127.trans (hfn 0 (by omega))
    have er127 := w1 0
    refine vv_callVI (As := [.int (zI z127)]) (st := []) (Nf := 3) X 1 (c_X7_movePrior l D cA had M z127 (by omega)) gX8_obey_X7_movePrior rfl (by decide +kernel) ⟨by decide, by decide⟩ (Nat.le_of_ble_eq_true rfl) ⟨by decide, by decide⟩ rfl (by decide) sh_0 rfl rfl dX8_obey_130 (fun z130 Mc130 q_130 => ?_)
    obtain ⟨hO, hE⟩ := opP_of q_130
    rw [ez127] at hO
    exact vv_iret X hm (⟨⟨fun q => by exfalso; omega, fun q => by exfalso; omega, fun q => by first | (exfalso; omega) | exact hO, fun q => by exfalso; omega, fun q => by exfalso; omega⟩, eqx_mono hE (by decide)⟩) dX8_obey_133
  by_cases c_7_3 : (M 95 4) = 114
  · skip
    refine vv_look (tgt := 56) (off := 49) X (by rw [h4]; omega) dX8_obey_7 (by decide) (by rw [c_7_3]; decide) (by decide) ?_
    refine vv_aload_n X 0 rfl rfl dX8_obey_56 ?_
    refine vv_getr (Nf := 9) (ref := (TX8 0).1) X (by decide) sh_90 rfl 0 (by decide) u_X8_obey_8 k_X8_obey_10 rfl rfl dX8_obey_57 ?_
    refine vv_getr (Nf := 3) (ref := (TX7 0).1) X (by decide) sh_0 rfl 0 (by decide) u_X8_obey_7 k_X8_obey_73 rfl rfl dX8_obey_60 ?_
    refine vv_aload_n X 0 rfl rfl dX8_obey_63 ?_
    refine vv_getr (Nf := 9) (ref := (TX8 4).1) X (by decide) sh_90 rfl 4 (by decide) u_X8_obey_8 k_X8_obey_34 rfl rfl dX8_obey_64 ?_
    refine vv_iconst (n := 0) X dX8_obey_67 ?_
    refine vv_callVI (As := [.int (zI 0)]) (st := [.ref (ad 1)]) (Nf := 6) X 1 (c_X4_number_any l D cA had M 0 t (by omega) (ht5) (by omega)) gX8_obey_X4_number rfl (by decide +kernel) ⟨by decide, by decide⟩ (Nat.le_of_ble_eq_true rfl) ⟨by decide, by decide⟩ rfl (by decide) sh_95 rfl rfl dX8_obey_68 (fun z68 Mc68 q_68 => ?_)
    obtain ⟨e_z68, g_z68⟩ := q_68
    have g_z68 := g_z68.symm
    subst g_z68
    have ez68 : z68 = r.2.2.2.1 0 := e_z68.trans (hfn 0 (by omega))
    have er68 := w1 0
    refine vv_aload_n X 0 rfl rfl dX8_obey_71 ?_
    refine vv_getr (Nf := 9) (ref := (TX8 4).1) X (by decide) sh_90 rfl 4 (by decide) u_X8_obey_8 k_X8_obey_34 rfl rfl dX8_obey_72 ?_
    refine vv_iconst (n := 1) X dX8_obey_75 ?_
    refine vv_callVI (As := [.int (zI 1)]) (st := [.int (zI z68), .ref (ad 1)]) (Nf := 6) X 1 (c_X4_number_any l D cA had M 1 t (by omega) (ht5) (by omega)) gX8_obey_X4_number rfl (by decide +kernel) ⟨by decide, by decide⟩ (Nat.le_of_ble_eq_true rfl) ⟨by decide, by decide⟩ rfl (by decide) sh_95 rfl rfl dX8_obey_76 (fun z76 Mc76 q_76 => ?_)
    obtain ⟨e_z76, g_z76⟩ := q_76
    have g_z76 := g_z76.symm
    subst g_z76
    have ez76 : z76 = r.2.2.2.1 1 := e_z76.trans (hfn 1 (by omega))
    have er76 := w1 1
    refine vv_aload_n X 0 rfl rfl dX8_obey_79 ?_
    refine vv_getr (Nf := 9) (ref := (TX8 4).1) X (by decide) sh_90 rfl 4 (by decide) u_X8_obey_8 k_X8_obey_34 rfl rfl dX8_obey_80 ?_
    refine vv_iconst (n := 2) X dX8_obey_83 ?_
    refine vv_callVI (As := [.int (zI 2)]) (st := [.int (zI z76), .int (zI z68), .ref (ad 1)]) (Nf := 6) X 1 (c_X4_number_any l D cA had M 2 t (by omega) (ht5) (by omega)) gX8_obey_X4_number rfl (by decide +kernel) ⟨by decide, by decide⟩ (Nat.le_of_ble_eq_true rfl) ⟨by decide, by decide⟩ rfl (by decide) sh_95 rfl rfl dX8_obey_84 (fun z84 Mc84 q_84 => ?_)
    obtain ⟨e_z84, g_z84⟩ := q_84
    have g_z84 := g_z84.symm
    subst g_z84
    have ez84 : z84 = r.2.2.2.1 2 := e_z84.trans (hfn 2 (by omega))
    have er84 := w1 2
    refine vv_aload_n X 0 rfl rfl dX8_obey_87 ?_
    refine vv_getr (Nf := 9) (ref := (TX8 4).1) X (by decide) sh_90 rfl 4 (by decide) u_X8_obey_8 k_X8_obey_34 rfl rfl dX8_obey_88 ?_
    refine vv_iconst (n := 3) X dX8_obey_91 ?_
    refine vv_callVI (As := [.int (zI 3)]) (st := [.int (zI z84), .int (zI z76), .int (zI z68), .ref (ad 1)]) (Nf := 6) X 1 (c_X4_number_any l D cA had M 3 t (by omega) (ht5) (by omega)) gX8_obey_X4_number rfl (by decide +kernel) ⟨by decide, by decide⟩ (Nat.le_of_ble_eq_true rfl) ⟨by decide, by decide⟩ rfl (by decide) sh_95 rfl rfl dX8_obey_92 (fun z92 Mc92 q_92 => ?_)
    obtain ⟨e_z92, g_z92⟩ := q_92
    have g_z92 := g_z92.symm
    subst g_z92
    have ez92 : z92 = r.2.2.2.1 3 := e_z92.trans (hfn 3 (by omega))
    have er92 := w1 3
    refine vv_callVI (As := [.int (zI z68), .int (zI z76), .int (zI z84), .int (zI z92)]) (st := []) (Nf := 5) X 4 (c_X5_admit l D cA had M z68 z76 z84 z92 (by omega) (by omega) (by omega) (by omega) (by omega)) gX8_obey_X5_admit rfl (by decide +kernel) ⟨by decide, by decide⟩ (Nat.le_of_ble_eq_true rfl) ⟨by decide, by decide⟩ rfl (by decide) sh_1 rfl rfl dX8_obey_95 (fun z95 Mc95 q_95 => ?_)
    obtain ⟨hO, hE⟩ := opR_of q_95 hn5
    rw [ez68, ez76, ez84, ez92] at hO
    exact vv_iret X hm (⟨⟨fun q => by first | (exfalso; omega) | exact hO, fun q => by exfalso; omega, fun q => by exfalso; omega, fun q => by exfalso; omega, fun q => by exfalso; omega⟩, eqx_mono hE (by decide)⟩) dX8_obey_98
  by_cases c_7_4 : (M 95 4) = 115
  · skip
    refine vv_look (tgt := 134) (off := 127) X (by rw [h4]; omega) dX8_obey_7 (by decide) (by rw [c_7_4]; decide) (by decide) ?_
    have ht2 := h115 (by omega)
    have hc6 := w3 (by omega)
    have h97 : ∀ k : Nat, k < 2 * r.2.2.2.2 → M 97 k = r.2.2.2.1 k := fun k hk => by
      have := hfn k (by omega)
      rw [if_pos (by omega)] at this
      exact this
    have hb97 : ∀ j : Nat, j < 2 * r.2.2.2.2 → -2147483648 ≤ M 97 j ∧ M 97 j ≤ 2147483647 := fun k hk => by
      rw [h97 k hk]
      have := w1 k
      omega
    refine vv_aload_n X 0 rfl rfl dX8_obey_134 ?_
    refine vv_callVI (As := []) (st := []) (Nf := 9) X 0 (c_X8_takeTold l D cA had M r.2.2.2.2 (w3 (by omega)) (by rw [ht5, h115 (by omega)]; rfl) (hb97) (hp9)) gX8_obey_X8_takeTold rfl (by decide +kernel) ⟨by decide, by decide⟩ (Nat.le_of_ble_eq_true rfl) ⟨by decide, by decide⟩ rfl (by decide) sh_90 rfl rfl dX8_obey_135 (fun z135 Mc135 q_135 => ?_)
    obtain ⟨hO, hE⟩ := q_135
    exact vv_iret X hm (⟨⟨fun q => by exfalso; omega, fun q => by exfalso; omega, fun q => by exfalso; omega, fun q => by first | (exfalso; omega) | exact opS_cong h97 hO, fun q => by exfalso; omega⟩, eqx_mono hE (by decide)⟩) dX8_obey_138
  refine vv_look (tgt := 144) (off := 137) X (by rw [h4]; omega) dX8_obey_7 (by decide) (by simp only [Op.lookupswitch.offset_cons, Op.lookupswitch.offset]; (repeat' split) <;> omega) (by decide) ?_
  exfalso
  omega
theorem u_X8_obeyAll_4 : ∀ w ∈ u_ws RX4 TX4 6, w ∈ wsX8_obeyAll := by decide +kernel
theorem u_X8_obeyAll_8 : ∀ w ∈ u_ws RX8 TX8 9, w ∈ wsX8_obeyAll := by decide +kernel
theorem k_X8_obeyAll_34 : Cond.fieldLink yX8_obeyAll.cls 34 (TX8 4).1 (TX8 4).2.1 (TX8 4).2.2.1 ∈ wsX8_obeyAll := by decide +kernel
theorem k_X8_obeyAll_174 : Cond.fieldLink yX8_obeyAll.cls 174 (TX4 2).1 (TX4 2).2.1 (TX4 2).2.2.1 ∈ wsX8_obeyAll := by decide +kernel
theorem k_X8_obeyAll_273 : Cond.fieldLink yX8_obeyAll.cls 273 (TX4 3).1 (TX4 3).2.1 (TX4 3).2.2.1 ∈ wsX8_obeyAll := by decide +kernel
set_option maxRecDepth 100000 in
set_option maxHeartbeats 4000000 in
theorem c_X8_obeyAll (l : Launch) (D : va_G) {ad : Nat → Nat} (cA : Nat → ClassId) (had : adok ad) (M : Mem) (t : Nat) (h5 : M 95 5 = (t : Int)) (hP : PW M) (hw : WF (vC M 0)) (hF : FT (cC M) (M 95 2).toNat 80 0 = -6) : CtI l yX8_obeyAll wsX8_obeyAll 6 131 D ad cA [.ref (ad 90)] M (fun z M1 => OT (cC M) (M 95 2).toNat 80 0 (vC M 0) 0 z (vC M1 0) ∧ (eqx M M1 [0, 1, 2, 3, 4, 5, 6, 7, 8, 95, 97, 99, 100, 101, 102] ∧ M1 95 2 = M 95 2) ∧ (∃ t : Nat, M1 95 5 = (t : Int)) ∧ 0 ≤ z ∧ z ≤ 80) := by
  refine CtI.of (cc := cX8_obeyAll) (maxL := 2) (ret := (some .int)) had (by decide) rfl (Nat.le_of_ble_eq_true rfl) ?_
  intro p e s m args below meth c X hm
  show VV p l e { frames := 6, cells := 0, slots := 0, locals := 131 } s m args below meth c 2 D ad cA (Afr ad s.heap.size) 0 0 (QI below args s D ad cA (fun z M1 => OT (cC M) (M 95 2).toNat 80 0 (vC M 0) 0 z (vC M1 0) ∧ (eqx M M1 [0, 1, 2, 3, 4, 5, 6, 7, 8, 95, 97, 99, 100, 101, 102] ∧ M1 95 2 = M 95 2) ∧ (∃ t : Nat, M1 95 5 = (t : Int)) ∧ 0 ≤ z ∧ z ≤ 80)) M 0 [(0, .ref (ad 90))] []
  have hl := hP.1
  have hCn := cC_n hP
  refine vv_iconst (n := 0) X dX8_obeyAll_0 ?_
  refine vv_istore_n (lv' := [(1, .int (zI 0)), (0, .ref (ad 90))]) X rfl (by decide) rfl dX8_obeyAll_1 ?_
  refine vv_aload_n X 1 rfl rfl dX8_obeyAll_2 ?_
  refine vv_getr (Nf := 9) (ref := (TX8 4).1) X (by decide) sh_90 rfl 4 (by decide) u_X8_obeyAll_8 k_X8_obeyAll_34 rfl rfl dX8_obeyAll_3 ?_
  refine vv_iconst (n := 0) X dX8_obeyAll_6 ?_
  refine vv_puti (Nf := 6) (ref := (TX4 3).1) X (by decide) sh_95 rfl 3 (by decide) u_X8_obeyAll_4 k_X8_obeyAll_273 rfl tyX4_ok nmX4 rfl (by decide +kernel) rfl rfl dX8_obeyAll_7 ?_
  have loop_10 : ∀ (n : Nat) (M_10 : Mem) (k : Nat) (j : Nat) (a1 : Int), a1 = (k : Int) → (eqx M M_10 [0, 1, 2, 3, 4, 5, 6, 7, 8, 95, 97, 99, 100, 101, 102] ∧ M_10 95 2 = M 95 2) → (∃ t : Nat, M_10 95 5 = (t : Int)) → M_10 95 3 = (j : Int) → j ≤ (M 95 2).toNat → 2 * k ≤ j + 1 → WF (vC M_10 0) → CI (cC M) (M 95 2).toNat k j (vC M_10 0) (vC M 0) → 80 - k < n → VV p l e { frames := 6, cells := 0, slots := 0, locals := 131 } s m args below meth c 2 D ad cA (Afr ad s.heap.size) 0 0 (QI below args s D ad cA (fun z M1 => OT (cC M) (M 95 2).toNat 80 0 (vC M 0) 0 z (vC M1 0) ∧ (eqx M M1 [0, 1, 2, 3, 4, 5, 6, 7, 8, 95, 97, 99, 100, 101, 102] ∧ M1 95 2 = M 95 2) ∧ (∃ t : Nat, M1 95 5 = (t : Int)) ∧ 0 ≤ z ∧ z ≤ 80)) M_10 10 [(0, .ref (ad 90)), (1, .int (zI a1))] [] := by
    intro n
    induction n with
    | zero => intro M_10 k j a1 h1 hE hT h3 hj hjk hwj hI hn; exact absurd hn (Nat.not_lt_zero _)
    | succ n ih_10 =>
      intro M_10 k j a1 h1 hE hT h3 hj hjk hwj hI hn
      obtain ⟨t7, ht7⟩ := hT
      have e2 := hE.2
      have e96 : M_10 96 = M 96 := hE.1 96 (by decide)
      have eC : cC M_10 = cC M := by unfold cC; rw [e2, e96]
      have hPj : PW M_10 := by unfold PW; rw [e2, e96]; exact hP
      refine vv_iload_n X 1 rfl rfl dX8_obeyAll_10 ?_
      refine vv_bipush (n := 80) X (by decide) dX8_obeyAll_11 ?_
      refine vv_icmp_ge (tgt := 58) X (by omega) (by omega) dX8_obeyAll_13 (by decide) (fun c_13 => ?_) (fun c_13 => ?_)
      · skip
        omega
      · skip
        refine vv_aload_n X 0 rfl rfl dX8_obeyAll_16 ?_
        refine vv_getr (Nf := 9) (ref := (TX8 4).1) X (by decide) sh_90 rfl 4 (by decide) u_X8_obeyAll_8 k_X8_obeyAll_34 rfl rfl dX8_obeyAll_17 ?_
        refine vv_geti (Nf := 6) (ref := (TX4 3).1) (z := (M_10 95 3)) X (by decide) sh_95 rfl 3 (by decide) u_X8_obeyAll_4 k_X8_obeyAll_273 rfl rfl (rfl) dX8_obeyAll_20 ?_
        refine vv_aload_n X 0 rfl rfl dX8_obeyAll_23 ?_
        refine vv_getr (Nf := 9) (ref := (TX8 4).1) X (by decide) sh_90 rfl 4 (by decide) u_X8_obeyAll_8 k_X8_obeyAll_34 rfl rfl dX8_obeyAll_24 ?_
        refine vv_geti (Nf := 6) (ref := (TX4 2).1) (z := (M_10 95 2)) X (by decide) sh_95 rfl 2 (by decide) u_X8_obeyAll_4 k_X8_obeyAll_174 rfl rfl (rfl) dX8_obeyAll_27 ?_
        refine vv_icmp_ge (tgt := 58) X (by omega) (by omega) dX8_obeyAll_30 (by decide) (fun c_30 => ?_) (fun c_30 => ?_)
        · skip
          refine vv_iload_n X 1 rfl rfl dX8_obeyAll_58 ?_
          exact vv_iret X hm (⟨by rw [h1]; exact CI_end hCn hF hI (by omega), hE, ⟨t7, ht7⟩, by omega, by omega⟩) dX8_obeyAll_59
        · skip
          refine vv_aload_n X 0 rfl rfl dX8_obeyAll_33 ?_
          refine vv_getr (Nf := 9) (ref := (TX8 4).1) X (by decide) sh_90 rfl 4 (by decide) u_X8_obeyAll_8 k_X8_obeyAll_34 rfl rfl dX8_obeyAll_34 ?_
          refine vv_callVI (As := []) (st := []) (Nf := 6) X 0 (c_X4_readNext l D cA had M_10 j t7 (h3) (ht7) (by rw [e2]; omega) (hPj)) gX8_obeyAll_X4_readNext rfl (by decide +kernel) ⟨by decide, by decide⟩ (Nat.le_of_ble_eq_true rfl) ⟨by decide, by decide⟩ rfl (by decide) sh_95 rfl rfl dX8_obeyAll_37 (fun z37 Mc37 q_37 => ?_)
          rw [eC] at q_37
          obtain ⟨s1, s2, s3, s4, s5⟩ := CI_step hCn hF (by omega) hjk hj hI (by omega)
          obtain ⟨x1, x2, x3, ⟨t37, ht37⟩, x5⟩ := q_37.2 s1
          rw [if_pos s2] at x1
          have x5 := x5 s2
          have e37 : vC Mc37 0 = vC M_10 0 := vC_eq (fun a _ q => x2.1 a (by simp; omega))
          have hw37 : WF (vC Mc37 0) := by rw [e37]; exact hwj
          refine vv_if_eq (tgt := 50) X (by omega) dX8_obeyAll_40 (by decide) (fun c_40 => ?_) (fun c_40 => ?_)
          · skip
            omega
          · skip
            refine vv_aload_n X 0 rfl rfl dX8_obeyAll_43 ?_
            refine vv_callVI (As := []) (st := []) (Nf := 9) X 0 (c_X8_obey l D cA had Mc37 (M 95 2).toNat (if 0 < j then j + 1 else j) (RO (cC M) (if 0 < j then j + 1 else j)) (s3) (s2) (x5.1) (x5.2) (hw37)) gX8_obeyAll_X8_obey rfl (by decide +kernel) ⟨by decide, by decide⟩ (Nat.le_of_ble_eq_true rfl) ⟨by decide, by decide⟩ rfl (by decide) sh_90 rfl rfl dX8_obeyAll_44 (fun z44 Mc44 q_44 => ?_)
            obtain ⟨hO44, hx44⟩ := q_44
            rw [e37] at hO44
            have hz44 := opO_z s3 s2 hwj hO44
            have hd44 : 0 ≤ z44 → WF (vC Mc44 0) := fun _ => (det_O s3 s2 (eqA_rf _) hwj hO44 hO44).2.2
            have hE44 : eqx M Mc44 [0, 1, 2, 3, 4, 5, 6, 7, 8, 95, 97, 99, 100, 101, 102] := eqx_tr hE.1 (eqx_tr (eqx_mono x2.1 (by decide)) (eqx_mono hx44 (by decide)))
            refine vv_if_ge (tgt := 52) X (by omega) dX8_obeyAll_47 (by decide) (fun c_47 => ?_) (fun c_47 => ?_)
            · skip
              refine vv_iinc (lv' := [(1, .int (zI (a1 + 1))), (0, .ref (ad 90))]) X 1 rfl (by decide) rfl dX8_obeyAll_52 ?_
              refine vv_goto (tgt := 10) X (by decide) dX8_obeyAll_55 ?_
              refine vv_sub (lv' := [(0, .ref (ad 90)), (1, .int (zI (a1 + 1)))]) [1, 0] rfl ?_
              exact ih_10 Mc44 (k + 1) (RO (cC M) (if 0 < j then j + 1 else j)).2.1 (a1 + 1) (by omega) ⟨hE44, by rw [hx44 95 (by decide), x2.2, e2]⟩ ⟨t37, by rw [hx44 95 (by decide)]; exact ht37⟩ (by rw [hx44 95 (by decide)]; exact x3) (by have := s3.1.2; omega) (by omega) (hd44 (by omega)) ((s5 _ _ hO44).2 (by omega)) (by omega)
            · skip
              refine vv_iload_n X 1 rfl rfl dX8_obeyAll_50 ?_
              exact vv_iret X hm (⟨by rw [h1]; exact (s5 _ _ hO44).1 (by omega), ⟨hE44, by rw [hx44 95 (by decide), x2.2, e2]⟩, ⟨t37, by rw [hx44 95 (by decide)]; exact ht37⟩, by omega, by omega⟩) dX8_obeyAll_51
  refine vv_sub (lv' := [(0, .ref (ad 90)), (1, .int (zI 0))]) [1, 0] rfl ?_
  exact loop_10 _ (up2 M 95 3 0) 0 0 0 rfl ⟨eqx_up _ _ (eqx_rf _ _) (by decide), by rw [up2_m _ _ _ (by decide)]⟩ ⟨t, by rw [up2_m _ _ _ (by decide)]; exact h5⟩ (by rw [up2_s]; rfl) (by omega) (by omega) (by rw [show vC (up2 M 95 3 0) 0 = vC M 0 from vC_eq (fun a _ q => up2_n _ _ _ (by omega))]; exact hw) (Or.inl ⟨rfl, rfl, vC_eq (fun a _ q => up2_n _ _ _ (by omega))⟩) (Nat.lt_succ_self _)
theorem u_X8_carryOut_4 : ∀ w ∈ u_ws RX4 TX4 6, w ∈ wsX8_carryOut := by decide +kernel
theorem u_X8_carryOut_8 : ∀ w ∈ u_ws RX8 TX8 9, w ∈ wsX8_carryOut := by decide +kernel
theorem k_X8_carryOut_10 : Cond.fieldLink yX8_carryOut.cls 10 (TX8 0).1 (TX8 0).2.1 (TX8 0).2.2.1 ∈ wsX8_carryOut := by decide +kernel
theorem k_X8_carryOut_19 : Cond.fieldLink yX8_carryOut.cls 19 (TX8 1).1 (TX8 1).2.1 (TX8 1).2.2.1 ∈ wsX8_carryOut := by decide +kernel
theorem k_X8_carryOut_34 : Cond.fieldLink yX8_carryOut.cls 34 (TX8 4).1 (TX8 4).2.1 (TX8 4).2.2.1 ∈ wsX8_carryOut := by decide +kernel
theorem k_X8_carryOut_174 : Cond.fieldLink yX8_carryOut.cls 174 (TX4 2).1 (TX4 2).2.1 (TX4 2).2.2.1 ∈ wsX8_carryOut := by decide +kernel
set_option maxRecDepth 100000 in
set_option maxHeartbeats 4000000 in
theorem c_X8_carryOut (l : Launch) (D : va_G) {ad : Nat → Nat} (cA : Nat → ClassId) (had : adok ad) (M : Mem) (t : Nat) (h5 : M 95 5 = (t : Int)) (hP : PW M) (hH : HI M) (hw : WF (vC M 0)) : CtI l yX8_carryOut wsX8_carryOut 7 152 D ad cA [.ref (ad 90)] M (fun z M1 => (FT (cC M) (M 95 2).toNat 80 0 ≠ -6 → z = -3 ∧ PE M M1 ∧ ∃ t : Nat, M1 95 5 = (t : Int)) ∧ (FT (cC M) (M 95 2).toNat 80 0 = -6 → cChg (fun a z a1 => OT (cC M) (M 95 2).toNat 80 0 a 0 z a1) 0 M z M1 ∧ ∃ t : Nat, M1 95 5 = (t : Int))) := by
  refine CtI.of (cc := cX8_carryOut) (maxL := 2) (ret := (some .int)) had (by decide) rfl (Nat.le_of_ble_eq_true rfl) ?_
  intro p e s m args below meth c X hm
  show VV p l e { frames := 7, cells := 0, slots := 0, locals := 152 } s m args below meth c 2 D ad cA (Afr ad s.heap.size) 0 0 (QI below args s D ad cA (fun z M1 => (FT (cC M) (M 95 2).toNat 80 0 ≠ -6 → z = -3 ∧ PE M M1 ∧ ∃ t : Nat, M1 95 5 = (t : Int)) ∧ (FT (cC M) (M 95 2).toNat 80 0 = -6 → cChg (fun a z a1 => OT (cC M) (M 95 2).toNat 80 0 a 0 z a1) 0 M z M1 ∧ ∃ t : Nat, M1 95 5 = (t : Int)))) M 0 [(0, .ref (ad 90))] []
  have hsm : 1 ≤ M 6 2 ∧ M 6 2 ≤ 6 := WFs_pos hw.2.2
  have hwb : ∀ k : Nat, (k : Int) < M 6 2 → (1 ≤ M 7 k ∧ M 7 k ≤ 999) ∧ (0 ≤ M 8 k ∧ M 8 k ≤ 100) := fun k hk => WFs_b hw.2.2 hk
  have hW : cWR M := hw.2.1
  have hn5 : 0 ≤ M 1 4 ∧ M 1 4 ≤ 5 := by
    have q1 := hW.2.1
    have q2 := hW.1
    omega
  have hp9 : 1 ≤ M 0 2 ∧ M 0 2 ≤ 99 := hw.1
  obtain ⟨d, hd⟩ : ∃ d : Nat, (d : Int) = M 91 1 + 3 := ⟨(M 91 1 + 3).toNat, by have := hH.1; omega⟩
  have hd10 : d < 10 := by have := hH.1; omega
  have hH1 := hH.1
  have hH2 := hH.2
  have hCn := cC_n hP
  have hl := hP.1
  refine vv_aload_n X 0 rfl rfl dX8_carryOut_0 ?_
  refine vv_getr (Nf := 9) (ref := (TX8 4).1) X (by decide) sh_90 rfl 4 (by decide) u_X8_carryOut_8 k_X8_carryOut_34 rfl rfl dX8_carryOut_1 ?_
  refine vv_callVI (As := []) (st := []) (Nf := 6) X 0 (c_X4_firstFault l D cA had M t (h5) (by assumption)) gX8_carryOut_X4_firstFault rfl (by decide +kernel) ⟨by decide, by decide⟩ (Nat.le_of_ble_eq_true rfl) ⟨by decide, by decide⟩ rfl (by decide) sh_95 rfl rfl dX8_carryOut_4 (fun z4 Mc4 q_4 => ?_)
  obtain ⟨v1, v2, t4, ht4⟩ := q_4
  have e491 : Mc4 91 = M 91 := v2.1 91 (by decide)
  have hz4 : -6 ≤ z4 ∧ z4 ≤ 1000 := by
    have q := FT_b (C := cC M) (n := (M 95 2).toNat) hCn (m := 80) (i := 0) (Nat.zero_le _)
    rw [v1]
    omega
  refine vv_bipush (n := (-6)) X (by decide) dX8_carryOut_7 ?_
  refine vv_icmp_eq (tgt := 15) X (by omega) (by omega) dX8_carryOut_9 (by decide) (fun c_9 => ?_) (fun c_9 => ?_)
  · skip
    refine vv_aload_n X 0 rfl rfl dX8_carryOut_15 ?_
    refine vv_getr (Nf := 9) (ref := (TX8 1).1) X (by decide) sh_90 rfl 1 (by decide) u_X8_carryOut_8 k_X8_carryOut_19 rfl rfl dX8_carryOut_16 ?_
    refine vv_aload_n X 0 rfl rfl dX8_carryOut_19 ?_
    refine vv_getr (Nf := 9) (ref := (TX8 0).1) X (by decide) sh_90 rfl 0 (by decide) u_X8_carryOut_8 k_X8_carryOut_10 rfl rfl dX8_carryOut_20 ?_
    refine vv_callVV (As := [.ref (ad 0)]) (st := []) (Nf := 3) X 1 (c_X2_note l D cA had Mc4 d (hd10) (by rw [e491]; exact hd) (by rw [e491]; exact hH1)) gX8_carryOut_X2_note rfl (by decide +kernel) ⟨by decide, by decide⟩ (Nat.le_of_ble_eq_true rfl) ⟨by decide, by decide⟩ rfl (by decide) sh_91 rfl rfl dX8_carryOut_23 (fun Ma qa => ?_)
    have ea : ∀ a, a < 9 → Ma a = Mc4 a := fun a ha => qa.1 a (by omega)
    have ea95 : Ma 95 = Mc4 95 := qa.1 95 (by omega)
    have ea96 : Ma 96 = M 96 := (qa.1 96 (by omega)).trans (v2.1 96 (by decide))
    have ev4 : vC Mc4 0 = vC M 0 := vC_eq (fun a _ q => v2.1 a (by simp; omega))
    have e0 : vC Ma 0 = vC Mc4 0 := vC_eq (fun a _ h => ea a (by omega))
    have hw4 : WF (vC Mc4 0) := by rw [ev4]; exact hw
    have hwa : WF (vC Ma 0) := by rw [e0]; exact hw4
    have eCa : cC Ma = cC M := by unfold cC; rw [ea95, ea96, v2.2]
    have hPa : PW Ma := by unfold PW; rw [ea95, ea96, v2.2]; exact hP
    have hFa : FT (cC Ma) (Ma 95 2).toNat 80 0 = -6 := by rw [eCa, ea95, v2.2]; omega
    refine vv_aload_n X 0 rfl rfl dX8_carryOut_26 ?_
    refine vv_callVI (As := []) (st := []) (Nf := 9) X 0 (c_X8_obeyAll l D cA had Ma t4 (by rw [ea95]; exact ht4) (hPa) (hwa) (hFa)) gX8_carryOut_X8_obeyAll rfl (by decide +kernel) ⟨by decide, by decide⟩ (Nat.le_of_ble_eq_true rfl) ⟨by decide, by decide⟩ rfl (by decide) sh_90 rfl rfl dX8_carryOut_27 (fun z27 Mb qb => ?_)
    refine vv_istore_n (lv' := [(1, .int (zI z27)), (0, .ref (ad 90))]) X rfl (by decide) rfl dX8_carryOut_30 ?_
    refine vv_aload_n X 1 rfl rfl dX8_carryOut_31 ?_
    refine vv_getr (Nf := 9) (ref := (TX8 4).1) X (by decide) sh_90 rfl 4 (by decide) u_X8_carryOut_8 k_X8_carryOut_34 rfl rfl dX8_carryOut_32 ?_
    refine vv_iconst (n := 0) X dX8_carryOut_35 ?_
    refine vv_puti (Nf := 6) (ref := (TX4 2).1) X (by decide) sh_95 rfl 2 (by decide) u_X8_carryOut_4 k_X8_carryOut_174 rfl tyX4_ok nmX4 rfl (by decide +kernel) rfl rfl dX8_carryOut_36 ?_
    refine vv_aload_n X 1 rfl rfl dX8_carryOut_39 ?_
    refine vv_iload_n X 0 rfl rfl dX8_carryOut_40 ?_
    obtain ⟨y1, y2, ⟨tb, htb⟩, y4, y5⟩ := qb
    rw [eCa, ea95, v2.2] at y1
    have eb91 : Mb 91 = M 91 := (y2.1 91 (by decide)).trans ((qa.1 91 (by omega)).trans e491)
    have hb1 : 0 ≤ (up2 Mb 95 2 0) 91 1 ∧ (up2 Mb 95 2 0) 91 1 < 7 := by rw [up2_n _ _ _ (by decide), eb91]; exact hH1
    have hb2 : 0 ≤ (up2 Mb 95 2 0) 91 2 ∧ (up2 Mb 95 2 0) 91 2 ≤ 6 := by rw [up2_n _ _ _ (by decide), eb91]; exact hH2
    refine vv_callVI (As := [.int (zI z27)]) (st := []) (Nf := 9) X 1 (c_X8_recorded l D cA had (up2 Mb 95 2 0) z27 (by omega) (hb1) (hb2)) gX8_carryOut_X8_recorded rfl (by decide +kernel) ⟨by decide, by decide⟩ (Nat.le_of_ble_eq_true rfl) ⟨by decide, by decide⟩ rfl (by decide) sh_90 rfl rfl dX8_carryOut_41 (fun z41 Mr qr => ?_)
    exact vv_iret X hm (by
      refine ⟨fun q => by omega, fun q => ⟨?_, ?_⟩⟩
      · have hH4 : HI Mc4 := by unfold HI; rw [e491]; exact hH
        refine cChg_PE v2.1 (chg_of (Mb := up2 Mb 95 2 0) hH4 (by rw [e491]; exact hd) ?_ ?_ qa ?_ ?_ ?_ qr)
        · rw [v2.1 1 (by decide)]; exact hn5.2
        · rw [v2.1 6 (by decide)]; exact hsm.2
        · rw [show vC (up2 Mb 95 2 0) 0 = vC Mb 0 from vC_eq (fun a _ h => up2_n _ _ _ (by omega))]
          exact y1
        · intro a ha
          rw [up2_n _ _ _ (by omega)]
          exact y2.1 a (by simp; omega)
        · rw [up2_s]
      · have e5 : ∀ w : Mem, w = Mr → w 95 5 = (tb : Int) := fun w hw5 => by
          rcases Int.lt_or_le z27 0 with s1 | s1
          · rw [hw5, qr.2.1 s1, up2_m _ _ _ (by decide)]; exact htb
          · rw [hw5, qr.2.2 s1, up2_n _ _ _ (by decide), up2_n _ _ _ (by decide), up2_m _ _ _ (by decide)]; exact htb
        exact ⟨tb, e5 _ rfl⟩) dX8_carryOut_44
  · skip
    refine vv_bipush (n := (-3)) X (by decide) dX8_carryOut_12 ?_
    exact vv_iret X hm (⟨fun _ => ⟨rfl, v2, ⟨t4, ht4⟩⟩, fun q => by omega⟩) dX8_carryOut_14
