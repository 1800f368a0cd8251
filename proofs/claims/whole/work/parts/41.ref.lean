set_option maxRecDepth 100000 in
set_option maxHeartbeats 4000000 in
theorem c_X9_leastActing (l : Launch) (D : va_G) {ad : Nat → Nat} (cA : Nat → ClassId) (had : adok ad) (M : Mem) (r : Int) (hr : 0 ≤ r ∧ r < M 106 1) (hW : rWR M) : CtI l yX9_leastActing wsX9_leastActing 2 44 D ad cA [.ref (ad 105), .int (zI r)] M (fun z M1 => ((0 ≤ z ∧ z ≤ 100) ∧ ac (rL M) (rG M) z r.toNat ∧ ∀ y : Int, 0 ≤ y → y < z → ¬ ac (rL M) (rG M) y r.toNat) ∧ M1 = M) := by
  refine CtI.of (cc := cX9_leastActing) (maxL := 4) (ret := (some .int)) had (by decide) rfl (Nat.le_of_ble_eq_true rfl) ?_
  intro p e s m args below meth c X hm
  show VV p l e { frames := 2, cells := 0, slots := 0, locals := 44 } s m args below meth c 4 D ad cA (Afr ad s.heap.size) 0 0 (QI below args s D ad cA (fun z M1 => ((0 ≤ z ∧ z ≤ 100) ∧ ac (rL M) (rG M) z r.toNat ∧ ∀ y : Int, 0 ≤ y → y < z → ¬ ac (rL M) (rG M) y r.toNat) ∧ M1 = M)) M 0 [(0, .ref (ad 105)), (1, .int (zI r))] []
  have hw := hW.2.2 r.toNat (by omega)
  refine vv_bipush (n := 100) X (by decide) dX9_leastActing_0 ?_
  refine vv_istore_n (lv' := [(2, .int (zI 100)), (0, .ref (ad 105)), (1, .int (zI r))]) X rfl (by decide) rfl dX9_leastActing_2 ?_
  refine vv_bipush (n := 100) X (by decide) dX9_leastActing_3 ?_
  refine vv_istore_n (lv' := [(3, .int (zI 100)), (2, .int (zI 100)), (0, .ref (ad 105)), (1, .int (zI r))]) X rfl (by decide) rfl dX9_leastActing_5 ?_
  have loop_6 : ∀ (n : Nat)  (a2 : Int) (a3 : Int), 0 ≤ a2 ∧ a2 ≤ 100 → -1 ≤ a3 ∧ a3 ≤ 100 → ac (rL M) (rG M) a2 r.toNat → (∀ y : Int, a3 < y → y < a2 → ¬ ac (rL M) (rG M) y r.toNat) → (a3 + 1).toNat < n → VV p l e { frames := 2, cells := 0, slots := 0, locals := 44 } s m args below meth c 4 D ad cA (Afr ad s.heap.size) 0 0 (QI below args s D ad cA (fun z M1 => ((0 ≤ z ∧ z ≤ 100) ∧ ac (rL M) (rG M) z r.toNat ∧ ∀ y : Int, 0 ≤ y → y < z → ¬ ac (rL M) (rG M) y r.toNat) ∧ M1 = M)) M 6 [(0, .ref (ad 105)), (1, .int (zI r)), (2, .int (zI a2)), (3, .int (zI a3))] [] := by
    intro n
    induction n with
    | zero => intro a2 a3 h2 h3 hc hy hn; exact absurd hn (Nat.not_lt_zero _)
    | succ n ih_6 =>
      intro a2 a3 h2 h3 hc hy hn
      refine vv_iload_n X 3 rfl rfl dX9_leastActing_6 ?_
      refine vv_if_lt (tgt := 31) X (by omega) dX9_leastActing_7 (by decide) (fun c_7 => ?_) (fun c_7 => ?_)
      · skip
        refine vv_iload_n X 2 rfl rfl dX9_leastActing_31 ?_
        exact vv_iret X hm (⟨⟨h2, hc, fun y q1 q2 => hy y (by omega) q2⟩, rfl⟩) dX9_leastActing_32
      · skip
        refine vv_aload_n X 0 rfl rfl dX9_leastActing_10 ?_
        refine vv_iload_n X 1 rfl rfl dX9_leastActing_11 ?_
        refine vv_iload_n X 3 rfl rfl dX9_leastActing_12 ?_
        refine vv_callVI (As := [.int (zI r), .int (zI a3)]) (st := []) (Nf := 20) X 2 (c_X9_acts l D cA had M r a3 (by omega) (by omega) (by assumption)) gX9_leastActing_X9_acts rfl (by decide +kernel) ⟨by decide, by decide⟩ (Nat.le_of_ble_eq_true rfl) ⟨by decide, by decide⟩ rfl (by decide) sh_105 rfl rfl dX9_leastActing_13 (fun z13 Mc13 q_13 => ?_)
        obtain ⟨e_z13, g_z13⟩ := q_13
        have g_z13 := g_z13.symm
        subst g_z13
        refine vv_if_eq (tgt := 23) X (by rw [e_z13]; split <;> omega) dX9_leastActing_16 (by decide) (fun c_16 => ?_) (fun c_16 => ?_)
        · skip
          have hna : ¬ ac (rL M) (rG M) a3 r.toNat := fun q => by rw [if_pos q] at e_z13; omega
          refine vv_iload_n X 2 rfl rfl dX9_leastActing_23 ?_
          refine vv_istore_n (lv' := [(2, .int (zI a2)), (0, .ref (ad 105)), (1, .int (zI r)), (3, .int (zI a3))]) X rfl (by decide) rfl dX9_leastActing_24 ?_
          refine vv_iinc (lv' := [(3, .int (zI (a3 + (-1)))), (2, .int (zI a2)), (0, .ref (ad 105)), (1, .int (zI r))]) X 3 rfl (by decide) rfl dX9_leastActing_25 ?_
          refine vv_goto (tgt := 6) X (by decide) dX9_leastActing_28 ?_
          refine vv_sub (lv' := [(0, .ref (ad 105)), (1, .int (zI r)), (2, .int (zI a2)), (3, .int (zI (a3 + (-1))))]) [2, 3, 1, 0] rfl ?_
          exact ih_6 a2 (a3 + (-1)) (by omega) (by omega) hc (fun y q1 q2 => by
            rcases (show a3 < y ∨ y = a3 by omega) with q | q
            · exact hy y q q2
            · rw [q]; exact hna) (by omega)
        · skip
          have hac : ac (rL M) (rG M) a3 r.toNat := Classical.byContradiction fun q => by rw [if_neg q] at e_z13; omega
          refine vv_iload_n X 3 rfl rfl dX9_leastActing_19 ?_
          refine vv_goto (tgt := 24) X (by decide) dX9_leastActing_20 ?_
          refine vv_istore_n (lv' := [(2, .int (zI a3)), (0, .ref (ad 105)), (1, .int (zI r)), (3, .int (zI a3))]) X rfl (by decide) rfl dX9_leastActing_24 ?_
          refine vv_iinc (lv' := [(3, .int (zI (a3 + (-1)))), (2, .int (zI a3)), (0, .ref (ad 105)), (1, .int (zI r))]) X 3 rfl (by decide) rfl dX9_leastActing_25 ?_
          refine vv_goto (tgt := 6) X (by decide) dX9_leastActing_28 ?_
          refine vv_sub (lv' := [(0, .ref (ad 105)), (1, .int (zI r)), (2, .int (zI a3)), (3, .int (zI (a3 + (-1))))]) [2, 3, 1, 0] rfl ?_
          exact ih_6 a3 (a3 + (-1)) (by omega) (by omega) hac (fun y q1 q2 => absurd q1 (by omega)) (by omega)
  refine vv_sub (lv' := [(0, .ref (ad 105)), (1, .int (zI r)), (2, .int (zI 100)), (3, .int (zI 100))]) [2, 3, 1, 0] rfl ?_
  exact loop_6 _ 100 100 (by omega) (by omega) (show (100 - 100 : Int) * rL M r.toNat ≤ 100 * rG M r.toNat by omega) (fun y q1 q2 => by omega) (Nat.lt_succ_self _)
theorem u_X9_weightSum_9 : ∀ w ∈ u_ws RX9 TX9 20, w ∈ wsX9_weightSum := by decide +kernel
theorem k_X9_weightSum_7 : Cond.fieldLink yX9_weightSum.cls 7 (TX9 0).1 (TX9 0).2.1 (TX9 0).2.2.1 ∈ wsX9_weightSum := by decide +kernel
set_option maxRecDepth 100000 in
set_option maxHeartbeats 4000000 in
theorem c_X9_weightSum (l : Launch) (D : va_G) {ad : Nat → Nat} (cA : Nat → ClassId) (had : adok ad) (M : Mem) (hn : 0 ≤ M 106 2 ∧ M 106 2 ≤ 6) : CtI l yX9_weightSum wsX9_weightSum 0 0 D ad cA [.ref (ad 105)] M (fun z M1 => z = sm (fun k => M 106 (23 + k)) (M 106 2).toNat ∧ M1 = M) := by
  refine CtI.of (cc := cX9_weightSum) (maxL := 3) (ret := (some .int)) had (by decide) rfl (Nat.le_of_ble_eq_true rfl) ?_
  intro p e s m args below meth c X hm
  show VV p l e { frames := 0, cells := 0, slots := 0, locals := 0 } s m args below meth c 3 D ad cA (Afr ad s.heap.size) 0 0 (QI below args s D ad cA (fun z M1 => z = sm (fun k => M 106 (23 + k)) (M 106 2).toNat ∧ M1 = M)) M 0 [(0, .ref (ad 105))] []
  refine vv_iconst (n := 0) X dX9_weightSum_0 ?_
  refine vv_istore_n (lv' := [(1, .int (zI 0)), (0, .ref (ad 105))]) X rfl (by decide) rfl dX9_weightSum_1 ?_
  refine vv_iconst (n := 0) X dX9_weightSum_2 ?_
  refine vv_istore_n (lv' := [(2, .int (zI 0)), (1, .int (zI 0)), (0, .ref (ad 105))]) X rfl (by decide) rfl dX9_weightSum_3 ?_
  have loop_4 : ∀ (n : Nat)  (k : Nat) (a1 : Int) (a2 : Int), a2 = (k : Int) → (k : Int) ≤ M 106 2 → a1 = sm (fun k => M 106 (23 + k)) k → (M 106 2 - a2).toNat < n → VV p l e { frames := 0, cells := 0, slots := 0, locals := 0 } s m args below meth c 3 D ad cA (Afr ad s.heap.size) 0 0 (QI below args s D ad cA (fun z M1 => z = sm (fun k => M 106 (23 + k)) (M 106 2).toNat ∧ M1 = M)) M 4 [(0, .ref (ad 105)), (1, .int (zI a1)), (2, .int (zI a2))] [] := by
    intro n
    induction n with
    | zero => intro k a1 a2 h2 hk h1 hn; exact absurd hn (Nat.not_lt_zero _)
    | succ n ih_4 =>
      intro k a1 a2 h2 hk h1 hn
      have h6 : (23 + a2).toNat = 23 + k := by omega
      refine vv_iload_n X 2 rfl rfl dX9_weightSum_4 ?_
      refine vv_aload_n X 0 rfl rfl dX9_weightSum_5 ?_
      refine vv_getr (Nf := 20) (ref := (TX9 0).1) X (by decide) sh_105 rfl 0 (by decide) u_X9_weightSum_9 k_X9_weightSum_7 rfl rfl dX9_weightSum_6 ?_
      refine vv_iconst (n := 2) X dX9_weightSum_9 ?_
      refine vv_iald (z := (M 106 2)) X (by decide) sh_106 (by decide) (by omega) (rfl) dX9_weightSum_10 ?_
      refine vv_icmp_ge (tgt := 32) X (by omega) (by omega) dX9_weightSum_11 (by decide) (fun c_11 => ?_) (fun c_11 => ?_)
      · skip
        refine vv_iload_n X 1 rfl rfl dX9_weightSum_32 ?_
        exact vv_iret X hm (⟨by rw [h1, show (M 106 2).toNat = k by omega], rfl⟩) dX9_weightSum_33
      · skip
        refine vv_iload_n X 1 rfl rfl dX9_weightSum_14 ?_
        refine vv_aload_n X 0 rfl rfl dX9_weightSum_15 ?_
        refine vv_getr (Nf := 20) (ref := (TX9 0).1) X (by decide) sh_105 rfl 0 (by decide) u_X9_weightSum_9 k_X9_weightSum_7 rfl rfl dX9_weightSum_16 ?_
        refine vv_bipush (n := 23) X (by decide) dX9_weightSum_19 ?_
        refine vv_iload_n X 2 rfl rfl dX9_weightSum_21 ?_
        refine vv_iadd X dX9_weightSum_22 ?_
        refine vv_iald (z := (M 106 (23 + k))) X (by decide) sh_106 (by decide) (by omega) (by first | (rw [h6]; done) | (rw [h6]; exact (rfl))) dX9_weightSum_23 ?_
        refine vv_iadd X dX9_weightSum_24 ?_
        refine vv_istore_n (lv' := [(1, .int (zI (a1 + (M 106 (23 + k))))), (0, .ref (ad 105)), (2, .int (zI a2))]) X rfl (by decide) rfl dX9_weightSum_25 ?_
        refine vv_iinc (lv' := [(2, .int (zI (a2 + 1))), (1, .int (zI (a1 + (M 106 (23 + k))))), (0, .ref (ad 105))]) X 2 rfl (by decide) rfl dX9_weightSum_26 ?_
        refine vv_goto (tgt := 4) X (by decide) dX9_weightSum_29 ?_
        refine vv_sub (lv' := [(0, .ref (ad 105)), (1, .int (zI (a1 + (M 106 (23 + k))))), (2, .int (zI (a2 + 1)))]) [2, 1, 0] rfl ?_
        exact ih_4 (k + 1) (a1 + (M 106 (23 + k))) (a2 + 1) (by omega) (by omega) (by rw [h1]; rfl) (by omega)
  refine vv_sub (lv' := [(0, .ref (ad 105)), (1, .int (zI 0)), (2, .int (zI 0))]) [2, 1, 0] rfl ?_
  exact loop_4 _ 0 0 0 rfl (by omega) rfl (Nat.lt_succ_self _)
theorem u_X9_takeMean_9 : ∀ w ∈ u_ws RX9 TX9 20, w ∈ wsX9_takeMean := by decide +kernel
theorem k_X9_takeMean_7 : Cond.fieldLink yX9_takeMean.cls 7 (TX9 0).1 (TX9 0).2.1 (TX9 0).2.2.1 ∈ wsX9_takeMean := by decide +kernel
set_option maxRecDepth 100000 in
set_option maxHeartbeats 4000000 in
theorem c_X9_takeMean (l : Launch) (D : va_G) {ad : Nat → Nat} (cA : Nat → ClassId) (had : adok ad) (M : Mem) (hn : 1 ≤ M 106 2 ∧ M 106 2 ≤ 6) (hw : ∀ k : Nat, (k : Int) < M 106 2 → (1 ≤ M 106 (23 + k) ∧ M 106 (23 + k) ≤ 999) ∧ (0 ≤ M 106 (29 + k) ∧ M 106 (29 + k) ≤ 100)) (hW : rWR M) : CtV l yX9_takeMean wsX9_takeMean 4 92 D ad cA [.ref (ad 105)] M (fun M1 => M1 = up2 (up2 M 105 10 (frA (sm (fun k => M 106 (23 + k) * rvl M (M 106 (29 + k))) (M 106 2).toNat) (sm (fun k => M 106 (23 + k)) (M 106 2).toNat))) 105 11 (frB (sm (fun k => M 106 (23 + k) * rvl M (M 106 (29 + k))) (M 106 2).toNat) (sm (fun k => M 106 (23 + k)) (M 106 2).toNat))) := by
  refine CtV.of (cc := cX9_takeMean) (maxL := 3) (ret := none) had (by decide) rfl (Nat.le_of_ble_eq_true rfl) ?_
  intro p e s m args below meth c X hm
  show VV p l e { frames := 4, cells := 0, slots := 0, locals := 92 } s m args below meth c 3 D ad cA (Afr ad s.heap.size) 0 0 (QV below args s D ad cA (fun M1 => M1 = up2 (up2 M 105 10 (frA (sm (fun k => M 106 (23 + k) * rvl M (M 106 (29 + k))) (M 106 2).toNat) (sm (fun k => M 106 (23 + k)) (M 106 2).toNat))) 105 11 (frB (sm (fun k => M 106 (23 + k) * rvl M (M 106 (29 + k))) (M 106 2).toNat) (sm (fun k => M 106 (23 + k)) (M 106 2).toNat)))) M 0 [(0, .ref (ad 105))] []
  refine vv_iconst (n := 0) X dX9_takeMean_0 ?_
  refine vv_istore_n (lv' := [(1, .int (zI 0)), (0, .ref (ad 105))]) X rfl (by decide) rfl dX9_takeMean_1 ?_
  refine vv_iconst (n := 0) X dX9_takeMean_2 ?_
  refine vv_istore_n (lv' := [(2, .int (zI 0)), (1, .int (zI 0)), (0, .ref (ad 105))]) X rfl (by decide) rfl dX9_takeMean_3 ?_
  have loop_4 : ∀ (n : Nat)  (k : Nat) (a1 : Int) (a2 : Int), a2 = (k : Int) → (k : Int) ≤ M 106 2 → a1 = sm (fun k => M 106 (23 + k) * rvl M (M 106 (29 + k))) k → (M 106 2 - a2).toNat < n → VV p l e { frames := 4, cells := 0, slots := 0, locals := 92 } s m args below meth c 3 D ad cA (Afr ad s.heap.size) 0 0 (QV below args s D ad cA (fun M1 => M1 = up2 (up2 M 105 10 (frA (sm (fun k => M 106 (23 + k) * rvl M (M 106 (29 + k))) (M 106 2).toNat) (sm (fun k => M 106 (23 + k)) (M 106 2).toNat))) 105 11 (frB (sm (fun k => M 106 (23 + k) * rvl M (M 106 (29 + k))) (M 106 2).toNat) (sm (fun k => M 106 (23 + k)) (M 106 2).toNat)))) M 4 [(0, .ref (ad 105)), (1, .int (zI a1)), (2, .int (zI a2))] [] := by
    intro n
    induction n with
    | zero => intro k a1 a2 h2 hk h1 hn; exact absurd hn (Nat.not_lt_zero _)
    | succ n ih_4 =>
      intro k a1 a2 h2 hk h1 hn
      have h6 : (23 + a2).toNat = 23 + k := by omega
      have h7 : (29 + a2).toNat = 29 + k := by omega
      have hwk : (k : Int) < M 106 2 → (1 ≤ M 106 (23 + k) ∧ M 106 (23 + k) ≤ 999) ∧ (0 ≤ M 106 (29 + k) ∧ M 106 (29 + k) ≤ 100) := hw k
      refine vv_iload_n X 2 rfl rfl dX9_takeMean_4 ?_
      refine vv_aload_n X 0 rfl rfl dX9_takeMean_5 ?_
      refine vv_getr (Nf := 20) (ref := (TX9 0).1) X (by decide) sh_105 rfl 0 (by decide) u_X9_takeMean_9 k_X9_takeMean_7 rfl rfl dX9_takeMean_6 ?_
      refine vv_iconst (n := 2) X dX9_takeMean_9 ?_
      refine vv_iald (z := (M 106 2)) X (by decide) sh_106 (by decide) (by omega) (rfl) dX9_takeMean_10 ?_
      refine vv_icmp_ge (tgt := 46) X (by omega) (by omega) dX9_takeMean_11 (by decide) (fun c_11 => ?_) (fun c_11 => ?_)
      · skip
        refine vv_aload_n X 0 rfl rfl dX9_takeMean_46 ?_
        refine vv_iload_n X 1 rfl rfl dX9_takeMean_47 ?_
        refine vv_aload_n X 0 rfl rfl dX9_takeMean_48 ?_
        refine vv_callVI (As := []) (st := [.int (zI a1), .ref (ad 105)]) (Nf := 20) X 0 (c_X9_weightSum l D cA had M (by omega)) gX9_takeMean_X9_weightSum rfl (by decide +kernel) ⟨by decide, by decide⟩ (Nat.le_of_ble_eq_true rfl) ⟨by decide, by decide⟩ rfl (by decide) sh_105 rfl rfl dX9_takeMean_49 (fun z49 Mc49 q_49 => ?_)
        obtain ⟨e_z49, g_z49⟩ := q_49
        have g_z49 := g_z49.symm
        subst g_z49
        have e7 : (M 106 2).toNat = k := by omega
        have b1 := sm_bm (f := fun k => M 106 (23 + k) * rvl M (M 106 (29 + k))) (a := -989010) (b := 989010) (n := k) (N := 6) (by omega) (by decide) (by decide) (fun j hj => by
          have b3 := hw j (by omega)
          have b4 := vl_b (x := M 106 (29 + j)) hW.2
          have b2 := mulS (a := M 106 (23 + j)) (A := 999) (b := rvl M (M 106 (29 + j))) (B := 990) (by omega) (by unfold rvl; omega)
          omega)
        have b2 := sm_b (f := fun k => M 106 (23 + k)) (a := 1) (b := 999) (n := k) (fun j hj => by have := hw j (by omega); omega)
        rw [e7] at e_z49
        refine vv_callVV (As := [.int (zI a1), .int (zI z49)]) (st := []) (Nf := 20) X 2 (c_X9_takeFraction l D cA had M a1 z49 (by omega) (by omega) (by omega)) gX9_takeMean_X9_takeFraction rfl (by decide +kernel) ⟨by decide, by decide⟩ (Nat.le_of_ble_eq_true rfl) ⟨by decide, by decide⟩ rfl (by decide) sh_105 rfl rfl dX9_takeMean_52 (fun Mc52 q_52 => ?_)
        have q_52 := q_52.symm
        subst q_52
        exact vv_vret X hm (by rw [h1, e_z49, e7]) dX9_takeMean_55
      · skip
        refine vv_iload_n X 1 rfl rfl dX9_takeMean_14 ?_
        refine vv_aload_n X 0 rfl rfl dX9_takeMean_15 ?_
        refine vv_getr (Nf := 20) (ref := (TX9 0).1) X (by decide) sh_105 rfl 0 (by decide) u_X9_takeMean_9 k_X9_takeMean_7 rfl rfl dX9_takeMean_16 ?_
        refine vv_bipush (n := 23) X (by decide) dX9_takeMean_19 ?_
        refine vv_iload_n X 2 rfl rfl dX9_takeMean_21 ?_
        refine vv_iadd X dX9_takeMean_22 ?_
        refine vv_iald (z := (M 106 (23 + k))) X (by decide) sh_106 (by decide) (by omega) (by first | (rw [h6]; done) | (rw [h6]; exact (rfl))) dX9_takeMean_23 ?_
        refine vv_aload_n X 0 rfl rfl dX9_takeMean_24 ?_
        refine vv_aload_n X 0 rfl rfl dX9_takeMean_25 ?_
        refine vv_getr (Nf := 20) (ref := (TX9 0).1) X (by decide) sh_105 rfl 0 (by decide) u_X9_takeMean_9 k_X9_takeMean_7 rfl rfl dX9_takeMean_26 ?_
        refine vv_bipush (n := 29) X (by decide) dX9_takeMean_29 ?_
        refine vv_iload_n X 2 rfl rfl dX9_takeMean_31 ?_
        refine vv_iadd X dX9_takeMean_32 ?_
        refine vv_iald (z := (M 106 (29 + k))) X (by decide) sh_106 (by decide) (by omega) (by first | (rw [h7]; done) | (rw [h7]; exact (rfl))) dX9_takeMean_33 ?_
        refine vv_callVI (As := [.int (zI (M 106 (29 + k)))]) (st := [.int (zI (M 106 (23 + k))), .int (zI a1)]) (Nf := 20) X 1 (c_X9_valueAt l D cA had M (M 106 (29 + k)) (by omega) (by assumption)) gX9_takeMean_X9_valueAt rfl (by decide +kernel) ⟨by decide, by decide⟩ (Nat.le_of_ble_eq_true rfl) ⟨by decide, by decide⟩ rfl (by decide) sh_105 rfl rfl dX9_takeMean_34 (fun z34 Mc34 q_34 => ?_)
        obtain ⟨e_z34, g_z34⟩ := q_34
        have g_z34 := g_z34.symm
        subst g_z34
        refine vv_imul X dX9_takeMean_37 ?_
        refine vv_iadd X dX9_takeMean_38 ?_
        refine vv_istore_n (lv' := [(1, .int (zI (a1 + ((M 106 (23 + k)) * z34)))), (0, .ref (ad 105)), (2, .int (zI a2))]) X rfl (by decide) rfl dX9_takeMean_39 ?_
        refine vv_iinc (lv' := [(2, .int (zI (a2 + 1))), (1, .int (zI (a1 + ((M 106 (23 + k)) * z34)))), (0, .ref (ad 105))]) X 2 rfl (by decide) rfl dX9_takeMean_40 ?_
        refine vv_goto (tgt := 4) X (by decide) dX9_takeMean_43 ?_
        refine vv_sub (lv' := [(0, .ref (ad 105)), (1, .int (zI (a1 + ((M 106 (23 + k)) * z34)))), (2, .int (zI (a2 + 1)))]) [2, 1, 0] rfl ?_
        exact ih_4 (k + 1) (a1 + ((M 106 (23 + k)) * z34)) (a2 + 1) (by omega) (by omega) (by simp only [sm]; rw [h1, e_z34]) (by omega)
  refine vv_sub (lv' := [(0, .ref (ad 105)), (1, .int (zI 0)), (2, .int (zI 0))]) [2, 1, 0] rfl ?_
  exact loop_4 _ 0 0 0 rfl (by omega) rfl (Nat.lt_succ_self _)
theorem u_X9_takeEnvelope_9 : ∀ w ∈ u_ws RX9 TX9 20, w ∈ wsX9_takeEnvelope := by decide +kernel
theorem k_X9_takeEnvelope_91 : Cond.fieldLink yX9_takeEnvelope.cls 91 (TX9 12).1 (TX9 12).2.1 (TX9 12).2.2.1 ∈ wsX9_takeEnvelope := by decide +kernel
theorem k_X9_takeEnvelope_94 : Cond.fieldLink yX9_takeEnvelope.cls 94 (TX9 13).1 (TX9 13).2.1 (TX9 13).2.2.1 ∈ wsX9_takeEnvelope := by decide +kernel
set_option maxRecDepth 100000 in
set_option maxHeartbeats 4000000 in
theorem c_X9_takeEnvelope (l : Launch) (D : va_G) {ad : Nat → Nat} (cA : Nat → ClassId) (had : adok ad) (M : Mem) (x : Int) (hx : 0 ≤ x ∧ x ≤ 100) (hW : rWR M) : CtV l yX9_takeEnvelope wsX9_takeEnvelope 4 92 D ad cA [.ref (ad 105), .int (zI x)] M (fun M1 => ∃ lo hi : Int, isB (rvl M) x lo hi ∧ M1 = up2 (up2 (up2 (up2 M 105 12 lo) 105 13 hi) 105 10 (frA (sN (rvl M) x lo hi) (sD lo hi))) 105 11 (frB (sN (rvl M) x lo hi) (sD lo hi))) := by
  refine CtV.of (cc := cX9_takeEnvelope) (maxL := 7) (ret := none) had (by decide) rfl (Nat.le_of_ble_eq_true rfl) ?_
  intro p e s m args below meth c X hm
  show VV p l e { frames := 4, cells := 0, slots := 0, locals := 92 } s m args below meth c 7 D ad cA (Afr ad s.heap.size) 0 0 (QV below args s D ad cA (fun M1 => ∃ lo hi : Int, isB (rvl M) x lo hi ∧ M1 = up2 (up2 (up2 (up2 M 105 12 lo) 105 13 hi) 105 10 (frA (sN (rvl M) x lo hi) (sD lo hi))) 105 11 (frB (sN (rvl M) x lo hi) (sD lo hi)))) M 0 [(0, .ref (ad 105)), (1, .int (zI x))] []
  have hvb : ∀ y : Int, -495 ≤ rvl M y ∧ rvl M y ≤ 990 := fun y => vl_b hW.2
  refine vv_aload_n X 0 rfl rfl dX9_takeEnvelope_0 ?_
  refine vv_iload_n X 1 rfl rfl dX9_takeEnvelope_1 ?_
  refine vv_callVI (As := [.int (zI x)]) (st := []) (Nf := 20) X 1 (c_X9_valueAt l D cA had M x (by omega) (by assumption)) gX9_takeEnvelope_X9_valueAt rfl (by decide +kernel) ⟨by decide, by decide⟩ (Nat.le_of_ble_eq_true rfl) ⟨by decide, by decide⟩ rfl (by decide) sh_105 rfl rfl dX9_takeEnvelope_2 (fun z2 Mc2 q_2 => ?_)
  obtain ⟨e_z2, g_z2⟩ := q_2
  have g_z2 := g_z2.symm
  subst g_z2
  refine vv_istore_n (lv' := [(2, .int (zI z2)), (0, .ref (ad 105)), (1, .int (zI x))]) X rfl (by decide) rfl dX9_takeEnvelope_5 ?_
  refine vv_iconst (n := 1) X dX9_takeEnvelope_6 ?_
  refine vv_istore_n (lv' := [(3, .int (zI 1)), (2, .int (zI z2)), (0, .ref (ad 105)), (1, .int (zI x))]) X rfl (by decide) rfl dX9_takeEnvelope_7 ?_
  refine vv_aload_n X 2 rfl rfl dX9_takeEnvelope_8 ?_
  refine vv_iload_n X 3 rfl rfl dX9_takeEnvelope_9 ?_
  refine vv_puti (Nf := 20) (ref := (TX9 12).1) X (by decide) sh_105 rfl 12 (by decide) u_X9_takeEnvelope_9 k_X9_takeEnvelope_91 rfl tyX9_ok nmX9 rfl (by decide +kernel) rfl rfl dX9_takeEnvelope_10 ?_
  refine vv_aload_n X 2 rfl rfl dX9_takeEnvelope_13 ?_
  refine vv_iload_n X 3 rfl rfl dX9_takeEnvelope_14 ?_
  refine vv_puti (Nf := 20) (ref := (TX9 13).1) X (by decide) sh_105 rfl 13 (by decide) u_X9_takeEnvelope_9 k_X9_takeEnvelope_94 rfl tyX9_ok nmX9 rfl (by decide +kernel) rfl rfl dX9_takeEnvelope_15 ?_
  refine vv_iload_n X 3 rfl rfl dX9_takeEnvelope_18 ?_
  refine vv_iconst (n := 1) X dX9_takeEnvelope_19 ?_
  refine vv_isub X dX9_takeEnvelope_20 ?_
  refine vv_istore (lv' := [(4, .int (zI (x - 1))), (3, .int (zI 1)), (2, .int (zI z2)), (0, .ref (ad 105)), (1, .int (zI x))]) X (by decide) rfl dX9_takeEnvelope_21 ?_
  have loop_23 : ∀ (n : Nat) (M_23 : Mem) (lo : Int) (hi : Int) (a2 : Int) (a3 : Int) (a4 : Int), M_23 = up2 (up2 M 105 12 lo) 105 13 hi → -1 ≤ a4 ∧ a4 < x → a2 = sN (rvl M) x lo hi → a3 = sD lo hi → BestIn (rvl M) x lo hi (fun lo hi => (lo = x ∧ hi = x) ∨ a4 < lo) → (a4 + 1).toNat < n → VV p l e { frames := 4, cells := 0, slots := 0, locals := 92 } s m args below meth c 7 D ad cA (Afr ad s.heap.size) 0 0 (QV below args s D ad cA (fun M1 => ∃ lo hi : Int, isB (rvl M) x lo hi ∧ M1 = up2 (up2 (up2 (up2 M 105 12 lo) 105 13 hi) 105 10 (frA (sN (rvl M) x lo hi) (sD lo hi))) 105 11 (frB (sN (rvl M) x lo hi) (sD lo hi)))) M_23 23 [(0, .ref (ad 105)), (1, .int (zI x)), (2, .int (zI a2)), (3, .int (zI a3)), (4, .int (zI a4))] [] := by
    intro n
    induction n with
    | zero => intro M_23 lo hi a2 a3 a4 hM h4 h2 h3 hB hn; exact absurd hn (Nat.not_lt_zero _)
    | succ n ih_23 =>
      intro M_23 lo hi a2 a3 a4 hM h4 h2 h3 hB hn
      refine vv_iload X 4 rfl dX9_takeEnvelope_23 ?_
      refine vv_if_lt (tgt := 110) X (by omega) dX9_takeEnvelope_25 (by decide) (fun c_25 => ?_) (fun c_25 => ?_)
      · skip
        refine vv_aload_n X 0 rfl rfl dX9_takeEnvelope_110 ?_
        refine vv_iload_n X 2 rfl rfl dX9_takeEnvelope_111 ?_
        refine vv_iload_n X 3 rfl rfl dX9_takeEnvelope_112 ?_
        have hsN : -198000 ≤ a2 ∧ a2 ≤ 198000 := by rw [h2]; exact sN_b hvb hx hB.1
        have hsD : 0 < a3 ∧ a3 ≤ 100 := by rw [h3]; exact ⟨sD_pos hB.1, sD_b hx hB.1⟩
        refine vv_callVV (As := [.int (zI a2), .int (zI a3)]) (st := []) (Nf := 20) X 2 (c_X9_takeFraction l D cA had M_23 a2 a3 (by omega) (by omega) (by omega)) gX9_takeEnvelope_X9_takeFraction rfl (by decide +kernel) ⟨by decide, by decide⟩ (Nat.le_of_ble_eq_true rfl) ⟨by decide, by decide⟩ rfl (by decide) sh_105 rfl rfl dX9_takeEnvelope_113 (fun Mc113 q_113 => ?_)
        have q_113 := q_113.symm
        subst q_113
        exact vv_vret X hm (⟨lo, hi, ⟨hB.1, fun a b ha => hB.2 a b ha (by rcases ha with ha | ha; exact Or.inl ha; exact Or.inr (by omega))⟩, by rw [hM, h2, h3]⟩) dX9_takeEnvelope_116
      · skip
        refine vv_bipush (n := 100) X (by decide) dX9_takeEnvelope_28 ?_
        refine vv_istore (lv' := [(5, .int (zI 100)), (0, .ref (ad 105)), (1, .int (zI x)), (2, .int (zI a2)), (3, .int (zI a3)), (4, .int (zI a4))]) X (by decide) rfl dX9_takeEnvelope_30 ?_
        have loop_32 : ∀ (n : Nat) (M_32 : Mem) (lo2 : Int) (hi2 : Int) (b2 : Int) (b3 : Int) (a5 : Int), M_32 = up2 (up2 M 105 12 lo2) 105 13 hi2 → x ≤ a5 ∧ a5 ≤ 100 → b2 = sN (rvl M) x lo2 hi2 → b3 = sD lo2 hi2 → BestIn (rvl M) x lo2 hi2 (fun lo hi => ((lo = x ∧ hi = x) ∨ a4 < lo) ∨ (lo = a4 ∧ a5 < hi)) → (a5 - x).toNat < n → VV p l e { frames := 4, cells := 0, slots := 0, locals := 92 } s m args below meth c 7 D ad cA (Afr ad s.heap.size) 0 0 (QV below args s D ad cA (fun M1 => ∃ lo hi : Int, isB (rvl M) x lo hi ∧ M1 = up2 (up2 (up2 (up2 M 105 12 lo) 105 13 hi) 105 10 (frA (sN (rvl M) x lo hi) (sD lo hi))) 105 11 (frB (sN (rvl M) x lo hi) (sD lo hi)))) M_32 32 [(0, .ref (ad 105)), (1, .int (zI x)), (2, .int (zI b2)), (3, .int (zI b3)), (4, .int (zI a4)), (5, .int (zI a5))] [] := by
          intro n
          induction n with
          | zero => intro M_32 lo2 hi2 b2 b3 a5 kM k5 k2 k3 kB hn; exact absurd hn (Nat.not_lt_zero _)
          | succ n ih_32 =>
            intro M_32 lo2 hi2 b2 b3 a5 kM k5 k2 k3 kB hn
            have e_32_106 : M_32 106 = M 106 := by rw [kM]; rfl
            have hWk : rWR M_32 := by unfold rWR rL rG rP rB; rw [e_32_106]; exact hW
            have hvk : ∀ y : Int, rvl M_32 y = rvl M y := fun y => by unfold rvl rL rG rP rB; rw [e_32_106]
            have hk0 := kB.1
            have hd0 := sD_pos hk0
            refine vv_iload X 5 rfl dX9_takeEnvelope_32 ?_
            refine vv_iload_n X 1 rfl rfl dX9_takeEnvelope_34 ?_
            refine vv_icmp_le (tgt := 104) X (by omega) (by omega) dX9_takeEnvelope_35 (by decide) (fun c_35 => ?_) (fun c_35 => ?_)
            · skip
              refine vv_iinc (lv' := [(4, .int (zI (a4 + (-1)))), (0, .ref (ad 105)), (1, .int (zI x)), (2, .int (zI b2)), (3, .int (zI b3)), (5, .int (zI a5))]) X 4 rfl (by decide) rfl dX9_takeEnvelope_104 ?_
              refine vv_goto (tgt := 23) X (by decide) dX9_takeEnvelope_107 ?_
              refine vv_sub (lv' := [(0, .ref (ad 105)), (1, .int (zI x)), (2, .int (zI b2)), (3, .int (zI b3)), (4, .int (zI (a4 + (-1))))]) [1, 2, 3, 4, 0] rfl ?_
              exact ih_23 M_32 lo2 hi2 b2 b3 (a4 + (-1)) kM (by omega) k2 k3 (BestIn_w kB (fun a b ha hq => by
                rcases ha with ha | ha
                · exact Or.inl (Or.inl ha)
                · rcases hq with hq | hq
                  · exact Or.inl (Or.inl hq)
                  · rcases (show a = a4 ∨ a4 < a by omega) with q | q
                    · exact Or.inr ⟨q, by omega⟩
                    · exact Or.inl (Or.inr q))) (by omega)
            · skip
              refine vv_iload X 5 rfl dX9_takeEnvelope_38 ?_
              refine vv_iload_n X 1 rfl rfl dX9_takeEnvelope_40 ?_
              refine vv_isub X dX9_takeEnvelope_41 ?_
              refine vv_aload_n X 0 rfl rfl dX9_takeEnvelope_42 ?_
              refine vv_iload X 4 rfl dX9_takeEnvelope_43 ?_
              refine vv_callVI (As := [.int (zI a4)]) (st := [.int (zI (a5 - x))]) (Nf := 20) X 1 (c_X9_valueAt l D cA had M_32 a4 (by omega) (hWk)) gX9_takeEnvelope_X9_valueAt rfl (by decide +kernel) ⟨by decide, by decide⟩ (Nat.le_of_ble_eq_true rfl) ⟨by decide, by decide⟩ rfl (by decide) sh_105 rfl rfl dX9_takeEnvelope_45 (fun z45 Mc45 q_45 => ?_)
              obtain ⟨e_z45, g_z45⟩ := q_45
              have g_z45 := g_z45.symm
              subst g_z45
              refine vv_imul X dX9_takeEnvelope_48 ?_
              refine vv_iload_n X 1 rfl rfl dX9_takeEnvelope_49 ?_
              refine vv_iload X 4 rfl dX9_takeEnvelope_50 ?_
              refine vv_isub X dX9_takeEnvelope_52 ?_
              refine vv_aload_n X 0 rfl rfl dX9_takeEnvelope_53 ?_
              refine vv_iload X 5 rfl dX9_takeEnvelope_54 ?_
              refine vv_callVI (As := [.int (zI a5)]) (st := [.int (zI (x - a4)), .int (zI ((a5 - x) * z45))]) (Nf := 20) X 1 (c_X9_valueAt l D cA had M_32 a5 (by omega) (hWk)) gX9_takeEnvelope_X9_valueAt rfl (by decide +kernel) ⟨by decide, by decide⟩ (Nat.le_of_ble_eq_true rfl) ⟨by decide, by decide⟩ rfl (by decide) sh_105 rfl rfl dX9_takeEnvelope_56 (fun z56 Mc56 q_56 => ?_)
              obtain ⟨e_z56, g_z56⟩ := q_56
              have g_z56 := g_z56.symm
              subst g_z56
              refine vv_imul X dX9_takeEnvelope_59 ?_
              refine vv_iadd X dX9_takeEnvelope_60 ?_
              rw [hvk] at e_z45 e_z56
              have hok : okS x a4 a5 := Or.inr ⟨by omega, by omega⟩
              have eN : sN (rvl M) x a4 a5 = (a5 - x) * z45 + (x - a4) * z56 := by unfold sN; rw [if_neg (by omega), e_z45, e_z56]
              have eD : sD a4 a5 = a5 - a4 := by unfold sD; rw [if_neg (by omega)]
              have v1 := hvb a4
              have v2 := hvb a5
              have m1 := mulS (a := a5 - x) (A := 100) (b := z45) (B := 990) (by omega) (by omega)
              have m2 := mulS (a := x - a4) (A := 100) (b := z56) (B := 990) (by omega) (by omega)
              have hsN : -198000 ≤ b2 ∧ b2 ≤ 198000 := by rw [k2]; exact sN_b hvb hx hk0
              have hsD : 0 < b3 ∧ b3 ≤ 100 := by rw [k3]; exact ⟨hd0, sD_b hx hk0⟩
              have m3 := mulSS (a := (a5 - x) * z45 + (x - a4) * z56) (A := 198000) (b := b3) (B := 100) (by omega) (by omega)
              have m4 := mulSS (a := b2) (A := 198000) (b := a5 - a4) (B := 100) (by omega) (by omega)
              refine vv_istore (lv' := [(6, .int (zI (((a5 - x) * z45) + ((x - a4) * z56)))), (0, .ref (ad 105)), (1, .int (zI x)), (2, .int (zI b2)), (3, .int (zI b3)), (4, .int (zI a4)), (5, .int (zI a5))]) X (by decide) rfl dX9_takeEnvelope_61 ?_
              refine vv_iload X 0 rfl dX9_takeEnvelope_63 ?_
              refine vv_iload_n X 4 rfl rfl dX9_takeEnvelope_65 ?_
              refine vv_imul X dX9_takeEnvelope_66 ?_
              refine vv_iload_n X 3 rfl rfl dX9_takeEnvelope_67 ?_
              refine vv_iload X 6 rfl dX9_takeEnvelope_68 ?_
              refine vv_iload X 5 rfl dX9_takeEnvelope_70 ?_
              refine vv_isub X dX9_takeEnvelope_72 ?_
              refine vv_imul X dX9_takeEnvelope_73 ?_
              refine vv_icmp_lt (tgt := 98) X (by omega) (by omega) dX9_takeEnvelope_74 (by decide) (fun c_74 => ?_) (fun c_74 => ?_)
              · skip
                refine vv_iinc (lv' := [(5, .int (zI (a5 + (-1)))), (6, .int (zI (((a5 - x) * z45) + ((x - a4) * z56)))), (0, .ref (ad 105)), (1, .int (zI x)), (2, .int (zI b2)), (3, .int (zI b3)), (4, .int (zI a4))]) X 6 rfl (by decide) rfl dX9_takeEnvelope_98 ?_
                refine vv_goto (tgt := 32) X (by decide) dX9_takeEnvelope_101 ?_
                refine vv_sub (lv' := [(0, .ref (ad 105)), (1, .int (zI x)), (2, .int (zI b2)), (3, .int (zI b3)), (4, .int (zI a4)), (5, .int (zI (a5 + (-1))))]) [2, 3, 4, 5, 6, 0] rfl ?_
                exact ih_32 M_32 lo2 hi2 b2 b3 (a5 + (-1)) kM (by omega) k2 k3 (BestIn_w (BestIn_no kB (l := a4) (h2 := a5) (by rw [← k2, ← k3, eN, eD]; omega)) (fun a b ha hq => by
                  rcases hq with hq | hq
                  · exact Or.inl (Or.inl hq)
                  · rcases (show b = a5 ∨ a5 < b by omega) with q | q
                    · exact Or.inr ⟨hq.1, q⟩
                    · exact Or.inl (Or.inr ⟨hq.1, q⟩))) (by omega)
              · skip
                refine vv_iload X 0 rfl dX9_takeEnvelope_77 ?_
                refine vv_istore_n (lv' := [(2, .int (zI (((a5 - x) * z45) + ((x - a4) * z56)))), (6, .int (zI (((a5 - x) * z45) + ((x - a4) * z56)))), (0, .ref (ad 105)), (1, .int (zI x)), (3, .int (zI b3)), (4, .int (zI a4)), (5, .int (zI a5))]) X rfl (by decide) rfl dX9_takeEnvelope_79 ?_
                refine vv_iload X 6 rfl dX9_takeEnvelope_80 ?_
                refine vv_iload X 5 rfl dX9_takeEnvelope_82 ?_
                refine vv_isub X dX9_takeEnvelope_84 ?_
                refine vv_istore_n (lv' := [(3, .int (zI (a5 - a4))), (2, .int (zI (((a5 - x) * z45) + ((x - a4) * z56)))), (6, .int (zI (((a5 - x) * z45) + ((x - a4) * z56)))), (0, .ref (ad 105)), (1, .int (zI x)), (4, .int (zI a4)), (5, .int (zI a5))]) X rfl (by decide) rfl dX9_takeEnvelope_85 ?_
                refine vv_aload_n X 3 rfl rfl dX9_takeEnvelope_86 ?_
                refine vv_iload X 5 rfl dX9_takeEnvelope_87 ?_
                refine vv_puti (Nf := 20) (ref := (TX9 12).1) X (by decide) sh_105 rfl 12 (by decide) u_X9_takeEnvelope_9 k_X9_takeEnvelope_91 rfl tyX9_ok nmX9 rfl (by decide +kernel) rfl rfl dX9_takeEnvelope_89 ?_
                refine vv_aload_n X 3 rfl rfl dX9_takeEnvelope_92 ?_
                refine vv_iload X 6 rfl dX9_takeEnvelope_93 ?_
                refine vv_puti (Nf := 20) (ref := (TX9 13).1) X (by decide) sh_105 rfl 13 (by decide) u_X9_takeEnvelope_9 k_X9_takeEnvelope_94 rfl tyX9_ok nmX9 rfl (by decide +kernel) rfl rfl dX9_takeEnvelope_95 ?_
                refine vv_iinc (lv' := [(5, .int (zI (a5 + (-1)))), (3, .int (zI (a5 - a4))), (2, .int (zI (((a5 - x) * z45) + ((x - a4) * z56)))), (6, .int (zI (((a5 - x) * z45) + ((x - a4) * z56)))), (0, .ref (ad 105)), (1, .int (zI x)), (4, .int (zI a4))]) X 6 rfl (by decide) rfl dX9_takeEnvelope_98 ?_
                refine vv_goto (tgt := 32) X (by decide) dX9_takeEnvelope_101 ?_
                refine vv_sub (lv' := [(0, .ref (ad 105)), (1, .int (zI x)), (2, .int (zI (((a5 - x) * z45) + ((x - a4) * z56)))), (3, .int (zI (a5 - a4))), (4, .int (zI a4)), (5, .int (zI (a5 + (-1))))]) [4, 5, 2, 1, 6, 0] rfl ?_
                exact ih_32 (up2 (up2 M_32 105 12 a4) 105 13 a5) a4 a5 (((a5 - x) * z45) + ((x - a4) * z56)) (a5 - a4) (a5 + (-1)) (by rw [kM]; exact up_pair (by decide)) (by omega) eN.symm eD.symm (BestIn_w (BestIn_yes kB (l := a4) (h2 := a5) hok (by rw [← k2, ← k3, eN, eD]; omega) (fun a b ha hq => by rcases ha with ha | ha <;> rcases hq with (hq | hq) | hq <;> omega)) (fun a b ha hq => by
                  rcases hq with hq | hq
                  · exact Or.inl (Or.inl hq)
                  · rcases (show b = a5 ∨ a5 < b by omega) with q | q
                    · exact Or.inr ⟨hq.1, q⟩
                    · exact Or.inl (Or.inr ⟨hq.1, q⟩))) (by omega)
        refine vv_sub (lv' := [(0, .ref (ad 105)), (1, .int (zI x)), (2, .int (zI a2)), (3, .int (zI a3)), (4, .int (zI a4)), (5, .int (zI 100))]) [1, 2, 3, 4, 5, 0] rfl ?_
        exact loop_32 _ M_23 lo hi a2 a3 100 hM (by omega) h2 h3 (BestIn_w hB (fun a b ha hq => by rcases hq with hq | hq; exact hq; rcases ha with ha | ha <;> omega)) (Nat.lt_succ_self _)
  refine vv_sub (lv' := [(0, .ref (ad 105)), (1, .int (zI x)), (2, .int (zI z2)), (3, .int (zI 1)), (4, .int (zI (x - 1)))]) [3, 4, 2, 1, 0] rfl ?_
  exact loop_23 _ (up2 (up2 M 105 12 x) 105 13 x) x x z2 1 (x - 1) rfl (by omega) (by rw [e_z2]; unfold sN; rw [if_pos rfl]) (by unfold sD; rw [if_pos rfl]) (BestIn_w BestIn_0 (fun a b ha hq => by rcases hq with hq | hq; exact hq; rcases ha with ha | ha <;> omega)) (Nat.lt_succ_self _)
theorem u_X9_weightOf_9 : ∀ w ∈ u_ws RX9 TX9 20, w ∈ wsX9_weightOf := by decide +kernel
theorem k_X9_weightOf_91 : Cond.fieldLink yX9_weightOf.cls 91 (TX9 12).1 (TX9 12).2.1 (TX9 12).2.2.1 ∈ wsX9_weightOf := by decide +kernel
theorem k_X9_weightOf_94 : Cond.fieldLink yX9_weightOf.cls 94 (TX9 13).1 (TX9 13).2.1 (TX9 13).2.2.1 ∈ wsX9_weightOf := by decide +kernel
set_option maxRecDepth 100000 in
set_option maxHeartbeats 4000000 in
theorem c_X9_weightOf (l : Launch) (D : va_G) {ad : Nat → Nat} (cA : Nat → ClassId) (had : adok ad) (M : Mem) (x y : Int) (hx : 0 ≤ x ∧ x ≤ 100) (hy : y = 0 ∨ y = 1) (hk : okS x (M 105 12) (M 105 13)) : CtI l yX9_weightOf wsX9_weightOf 1 24 D ad cA [.ref (ad 105), .int (zI x), .int (zI y)] M (fun z M1 => z = (if y = 1 then wLo x (M 105 12) (M 105 13) else wHi x (M 105 12) (M 105 13)) ∧ M1 = M) := by
  refine CtI.of (cc := cX9_weightOf) (maxL := 4) (ret := (some .int)) had (by decide) rfl (Nat.le_of_ble_eq_true rfl) ?_
  intro p e s m args below meth c X hm
  show VV p l e { frames := 1, cells := 0, slots := 0, locals := 24 } s m args below meth c 4 D ad cA (Afr ad s.heap.size) 0 0 (QI below args s D ad cA (fun z M1 => z = (if y = 1 then wLo x (M 105 12) (M 105 13) else wHi x (M 105 12) (M 105 13)) ∧ M1 = M)) M 0 [(0, .ref (ad 105)), (1, .int (zI x)), (2, .int (zI y))] []
  have hk2 : (0 ≤ M 105 12 ∧ M 105 12 ≤ x) ∧ (x ≤ M 105 13 ∧ M 105 13 ≤ 100) := by rcases hk with q | q <;> omega
  refine vv_aload_n X 0 rfl rfl dX9_weightOf_0 ?_
  refine vv_geti (Nf := 20) (ref := (TX9 12).1) (z := (M 105 12)) X (by decide) sh_105 rfl 12 (by decide) u_X9_weightOf_9 k_X9_weightOf_91 rfl rfl (rfl) dX9_weightOf_1 ?_
  refine vv_aload_n X 0 rfl rfl dX9_weightOf_4 ?_
  refine vv_geti (Nf := 20) (ref := (TX9 13).1) (z := (M 105 13)) X (by decide) sh_105 rfl 13 (by decide) u_X9_weightOf_9 k_X9_weightOf_94 rfl rfl (rfl) dX9_weightOf_5 ?_
  refine vv_icmp_ne (tgt := 21) X (by omega) (by omega) dX9_weightOf_8 (by decide) (fun c_8 => ?_) (fun c_8 => ?_)
  · skip
    refine vv_aload_n X 0 rfl rfl dX9_weightOf_21 ?_
    refine vv_geti (Nf := 20) (ref := (TX9 13).1) (z := (M 105 13)) X (by decide) sh_105 rfl 13 (by decide) u_X9_weightOf_9 k_X9_weightOf_94 rfl rfl (rfl) dX9_weightOf_22 ?_
    refine vv_iload_n X 1 rfl rfl dX9_weightOf_25 ?_
    refine vv_isub X dX9_weightOf_26 ?_
    refine vv_iload_n X 1 rfl rfl dX9_weightOf_27 ?_
    refine vv_aload_n X 0 rfl rfl dX9_weightOf_28 ?_
    refine vv_geti (Nf := 20) (ref := (TX9 12).1) (z := (M 105 12)) X (by decide) sh_105 rfl 12 (by decide) u_X9_weightOf_9 k_X9_weightOf_91 rfl rfl (rfl) dX9_weightOf_29 ?_
    refine vv_isub X dX9_weightOf_32 ?_
    skip
    refine vv_callSI (As := [.int (zI ((M 105 13) - x)), .int (zI (x - (M 105 12)))]) (st := []) X 2 (c_X9_divisor l D cA had M ((M 105 13) - x) (x - (M 105 12)) (by omega) (by omega)) gX9_weightOf_X9_divisor rfl (by decide +kernel) ⟨by decide, by decide⟩ (Nat.le_of_ble_eq_true rfl) ⟨by decide, by decide⟩ rfl rfl dX9_weightOf_33 (fun z33 Mc33 q_33 => ?_)
    obtain ⟨e_z33, g_z33⟩ := q_33
    have g_z33 := g_z33.symm
    subst g_z33
    have hne : M 105 12 < x ∧ x < M 105 13 := by rcases hk with q | q <;> omega
    have hg1 := Int.gcd_pos_of_ne_zero_left (x - M 105 12) (show M 105 13 - x ≠ 0 by omega)
    have hg2 : (Int.gcd (M 105 13 - x) (x - M 105 12) : Int) ≤ M 105 13 - x := Int.le_of_dvd (by omega) (Int.gcd_dvd_left _ _)
    rw [show z33 = (Int.gcd (M 105 13 - x) (x - M 105 12) : Int) from e_z33]
    refine vv_istore_n (lv' := [(3, .int (zI (Int.gcd (M 105 13 - x) (x - M 105 12) : Int))), (0, .ref (ad 105)), (1, .int (zI x)), (2, .int (zI y))]) X rfl (by decide) rfl dX9_weightOf_36 ?_
    refine vv_iload_n X 3 rfl rfl dX9_weightOf_37 ?_
    refine vv_if_eq (tgt := 50) X (by omega) dX9_weightOf_38 (by decide) (fun c_38 => ?_) (fun c_38 => ?_)
    · skip
      refine vv_iload_n X 2 rfl rfl dX9_weightOf_50 ?_
      refine vv_aload_n X 1 rfl rfl dX9_weightOf_51 ?_
      refine vv_geti (Nf := 20) (ref := (TX9 12).1) (z := (M 105 12)) X (by decide) sh_105 rfl 12 (by decide) u_X9_weightOf_9 k_X9_weightOf_91 rfl rfl (rfl) dX9_weightOf_52 ?_
      refine vv_isub X dX9_weightOf_55 ?_
      refine vv_iload_n X 0 rfl rfl dX9_weightOf_56 ?_
      refine vv_idiv X (by omega) (by omega) (by omega) dX9_weightOf_57 ?_
      exact vv_iret X hm (⟨by
        unfold wLo wHi
        first
        | (rw [if_pos (show y = 1 by omega)])
        | (rw [if_neg (show ¬ y = 1 by omega)])
        first
        | (rw [if_pos (by omega)])
        | (rw [if_neg (by omega)]), rfl⟩) dX9_weightOf_58
    · skip
      refine vv_aload_n X 1 rfl rfl dX9_weightOf_41 ?_
      refine vv_geti (Nf := 20) (ref := (TX9 13).1) (z := (M 105 13)) X (by decide) sh_105 rfl 13 (by decide) u_X9_weightOf_9 k_X9_weightOf_94 rfl rfl (rfl) dX9_weightOf_42 ?_
      refine vv_iload_n X 2 rfl rfl dX9_weightOf_45 ?_
      refine vv_isub X dX9_weightOf_46 ?_
      refine vv_goto (tgt := 56) X (by decide) dX9_weightOf_47 ?_
      refine vv_iload_n X 0 rfl rfl dX9_weightOf_56 ?_
      refine vv_idiv X (by omega) (by omega) (by omega) dX9_weightOf_57 ?_
      exact vv_iret X hm (⟨by
        unfold wLo wHi
        first
        | (rw [if_pos (show y = 1 by omega)])
        | (rw [if_neg (show ¬ y = 1 by omega)])
        first
        | (rw [if_pos (by omega)])
        | (rw [if_neg (by omega)]), rfl⟩) dX9_weightOf_58
  · skip
    refine vv_iload_n X 2 rfl rfl dX9_weightOf_11 ?_
    refine vv_if_eq (tgt := 19) X (by omega) dX9_weightOf_12 (by decide) (fun c_12 => ?_) (fun c_12 => ?_)
    · skip
      refine vv_iconst (n := 0) X dX9_weightOf_19 ?_
      exact vv_iret X hm (⟨by
        unfold wLo wHi
        first
        | (rw [if_pos (show y = 1 by omega)])
        | (rw [if_neg (show ¬ y = 1 by omega)])
        first
        | (rw [if_pos (by omega)])
        | (rw [if_neg (by omega)]), rfl⟩) dX9_weightOf_20
    · skip
      refine vv_iconst (n := 1) X dX9_weightOf_15 ?_
      refine vv_goto (tgt := 20) X (by decide) dX9_weightOf_16 ?_
      exact vv_iret X hm (⟨by
        unfold wLo wHi
        first
        | (rw [if_pos (show y = 1 by omega)])
        | (rw [if_neg (show ¬ y = 1 by omega)])
        first
        | (rw [if_pos (by omega)])
        | (rw [if_neg (by omega)]), rfl⟩) dX9_weightOf_20
