theorem u_X3_clear_3 : ∀ w ∈ u_ws RX3 TX3 1, w ∈ wsX3_clear := by decide +kernel
theorem k_X3_clear_9 : Cond.fieldLink yX3_clear.cls 9 (TX3 0).1 (TX3 0).2.1 (TX3 0).2.2.1 ∈ wsX3_clear := by decide +kernel
set_option maxRecDepth 100000 in
set_option maxHeartbeats 4000000 in
theorem c_X3_clear (l : Launch) (D : va_G) {ad : Nat → Nat} (cA : Nat → ClassId) (had : adok ad) (M : Mem) : CtV l yX3_clear wsX3_clear 0 0 D ad cA [.ref (ad 98)] M (fun M1 => M1 = stc M 99 (fun j => if (j : Int) < 101 then 0 else M 99 j)) := by
  refine CtV.of (cc := cX3_clear) (maxL := 2) (ret := none) had (by decide) rfl (Nat.le_of_ble_eq_true rfl) ?_
  intro p e s m args below meth c X hm
  show VV p l e { frames := 0, cells := 0, slots := 0, locals := 0 } s m args below meth c 2 D ad cA (Afr ad s.heap.size) 0 0 (QV below args s D ad cA (fun M1 => M1 = stc M 99 (fun j => if (j : Int) < 101 then 0 else M 99 j))) M 0 [(0, .ref (ad 98))] []
  refine vv_iconst (n := 0) X dX3_clear_0 ?_
  refine vv_istore_n (lv' := [(1, .int (zI 0)), (0, .ref (ad 98))]) X rfl (by decide) rfl dX3_clear_1 ?_
  have loop_2 : ∀ (n : Nat) (M_2 : Mem) (a1 : Int), 0 ≤ a1 ∧ a1 ≤ 101 → M_2 = stc M 99 (fun j => if (j : Int) < a1 then 0 else M 99 j) → (101 - a1).toNat < n → VV p l e { frames := 0, cells := 0, slots := 0, locals := 0 } s m args below meth c 2 D ad cA (Afr ad s.heap.size) 0 0 (QV below args s D ad cA (fun M1 => M1 = stc M 99 (fun j => if (j : Int) < 101 then 0 else M 99 j))) M_2 2 [(0, .ref (ad 98)), (1, .int (zI a1))] [] := by
    intro n
    induction n with
    | zero => intro M_2 a1 h1 hM hn; exact absurd hn (Nat.not_lt_zero _)
    | succ n ih_2 =>
      intro M_2 a1 h1 hM hn
      refine vv_iload_n X 1 rfl rfl dX3_clear_2 ?_
      refine vv_bipush (n := 100) X (by decide) dX3_clear_3 ?_
      refine vv_icmp_gt (tgt := 21) X (by omega) (by omega) dX3_clear_5 (by decide) (fun c_5 => ?_) (fun c_5 => ?_)
      · skip
        exact vv_vret X hm (by rw [hM, show a1 = 101 by omega]) dX3_clear_21
      · skip
        refine vv_aload_n X 0 rfl rfl dX3_clear_8 ?_
        refine vv_getr (Nf := 1) (ref := (TX3 0).1) X (by decide) sh_98 rfl 0 (by decide) u_X3_clear_3 k_X3_clear_9 rfl rfl dX3_clear_9 ?_
        refine vv_iload_n X 1 rfl rfl dX3_clear_12 ?_
        refine vv_iconst (n := 0) X dX3_clear_13 ?_
        refine vv_iast (ix := (Int.toNat a1)) X (by decide) sh_99 (by decide) (by omega) (rfl) dX3_clear_14 ?_
        refine vv_iinc (lv' := [(1, .int (zI (a1 + 1))), (0, .ref (ad 98))]) X 1 rfl (by decide) rfl dX3_clear_15 ?_
        refine vv_goto (tgt := 2) X (by decide) dX3_clear_18 ?_
        refine vv_sub (lv' := [(0, .ref (ad 98)), (1, .int (zI (a1 + 1)))]) [1, 0] rfl ?_
        exact ih_2 (up2 M_2 99 (Int.toNat a1) 0) (a1 + 1) (by omega) (by rw [hM]; exact clr_s h1.1) (by omega)
  refine vv_sub (lv' := [(0, .ref (ad 98)), (1, .int (zI 0))]) [1, 0] rfl ?_
  exact loop_2 _ M 0 (by omega) clr_0 (Nat.lt_succ_self _)
theorem u_X3_add_3 : ∀ w ∈ u_ws RX3 TX3 1, w ∈ wsX3_add := by decide +kernel
theorem k_X3_add_9 : Cond.fieldLink yX3_add.cls 9 (TX3 0).1 (TX3 0).2.1 (TX3 0).2.2.1 ∈ wsX3_add := by decide +kernel
set_option maxRecDepth 100000 in
set_option maxHeartbeats 4000000 in
theorem c_X3_add (l : Launch) (D : va_G) {ad : Nat → Nat} (cA : Nat → ClassId) (had : adok ad) (M : Mem) (x w : Int) (hx : 0 ≤ x ∧ x ≤ 100) : CtV l yX3_add wsX3_add 1 20 D ad cA [.ref (ad 98), .int (zI x), .int (zI w)] M (fun M1 => M1 = up2 M 99 x.toNat (M 99 x.toNat + w)) := by
  refine CtV.of (cc := cX3_add) (maxL := 3) (ret := none) had (by decide) rfl (Nat.le_of_ble_eq_true rfl) ?_
  intro p e s m args below meth c X hm
  show VV p l e { frames := 1, cells := 0, slots := 0, locals := 20 } s m args below meth c 3 D ad cA (Afr ad s.heap.size) 0 0 (QV below args s D ad cA (fun M1 => M1 = up2 M 99 x.toNat (M 99 x.toNat + w))) M 0 [(0, .ref (ad 98)), (1, .int (zI x)), (2, .int (zI w))] []
  refine vv_iload_n X 1 rfl rfl dX3_add_0 ?_
  refine vv_callNI (As := [.int (zI x)]) (st := []) (host := RX8) X 1 (c_X8_isPosterior l D cA had M x (by omega)) gX3_add_X8_isPosterior_n34 rfl X.2.2.1.2.2.1 (by decide +kernel) (by decide +kernel) (by decide +kernel) ⟨by decide, by decide⟩ (Nat.le_of_ble_eq_true rfl) ⟨by decide, by decide⟩ rfl rfl dX3_add_1 (fun z1 Mc1 q_1 => ?_)
  obtain ⟨e_z1, g_z1⟩ := q_1
  have g_z1 := g_z1.symm
  subst g_z1
  rw [if_pos hx] at e_z1
  refine vv_if_eq (tgt := 17) X (by omega) dX3_add_4 (by decide) (fun c_4 => ?_) (fun c_4 => ?_)
  · skip
    exact absurd e_z1 (by omega)
  · skip
    refine vv_aload_n X 0 rfl rfl dX3_add_7 ?_
    refine vv_getr (Nf := 1) (ref := (TX3 0).1) X (by decide) sh_98 rfl 0 (by decide) u_X3_add_3 k_X3_add_9 rfl rfl dX3_add_8 ?_
    refine vv_iload_n X 1 rfl rfl dX3_add_11 ?_
    refine vv_dup2 X rfl rfl dX3_add_12 ?_
    refine vv_iald (z := (M 99 (Int.toNat x))) X (by decide) sh_99 (by decide) (by omega) (rfl) dX3_add_13 ?_
    refine vv_iload_n X 2 rfl rfl dX3_add_14 ?_
    refine vv_iadd X dX3_add_15 ?_
    refine vv_iast (ix := (Int.toNat x)) X (by decide) sh_99 (by decide) (by omega) (rfl) dX3_add_16 ?_
    exact vv_vret X hm (rfl) dX3_add_17
theorem u_X3_gather_6 : ∀ w ∈ u_ws RX6 TX6 3, w ∈ wsX3_gather := by decide +kernel
theorem k_X3_gather_18 : Cond.fieldLink yX3_gather.cls 18 (TX6 2).1 (TX6 2).2.1 (TX6 2).2.2.1 ∈ wsX3_gather := by decide +kernel
theorem k_X3_gather_24 : Cond.fieldLink yX3_gather.cls 24 (TX6 1).1 (TX6 1).2.1 (TX6 1).2.2.1 ∈ wsX3_gather := by decide +kernel
theorem k_X3_gather_27 : Cond.fieldLink yX3_gather.cls 27 (TX6 0).1 (TX6 0).2.1 (TX6 0).2.2.1 ∈ wsX3_gather := by decide +kernel
set_option maxRecDepth 100000 in
set_option maxHeartbeats 4000000 in
theorem c_X3_gather (l : Launch) (D : va_G) {ad : Nat → Nat} (cA : Nat → ClassId) (had : adok ad) (M : Mem) (f : Int) (hn : 0 ≤ M 6 2 ∧ M 6 2 ≤ 6) (hp : ∀ k : Nat, (k : Int) < M 6 2 → 0 ≤ M 8 k ∧ M 8 k ≤ 100) : CtV l yX3_gather wsX3_gather 2 42 D ad cA [.ref (ad 98), .ref (ad 6), .int (zI f)] M (fun M1 => ∃ G : Nat → Int, M1 = stc M 99 G ∧ ∀ j, j < 101 → G j = SF (M 7) (M 8) (M 6 2).toNat j * f) := by
  refine CtV.of (cc := cX3_gather) (maxL := 4) (ret := none) had (by decide) rfl (Nat.le_of_ble_eq_true rfl) ?_
  intro p e s m args below meth c X hm
  show VV p l e { frames := 2, cells := 0, slots := 0, locals := 42 } s m args below meth c 4 D ad cA (Afr ad s.heap.size) 0 0 (QV below args s D ad cA (fun M1 => ∃ G : Nat → Int, M1 = stc M 99 G ∧ ∀ j, j < 101 → G j = SF (M 7) (M 8) (M 6 2).toNat j * f)) M 0 [(0, .ref (ad 98)), (1, .ref (ad 6)), (2, .int (zI f))] []
  refine vv_aload_n X 0 rfl rfl dX3_gather_0 ?_
  refine vv_callVV (As := []) (st := []) (Nf := 1) X 0 (c_X3_clear l D cA had M) gX3_gather_X3_clear rfl (by decide +kernel) ⟨by decide, by decide⟩ (Nat.le_of_ble_eq_true rfl) ⟨by decide, by decide⟩ rfl (by decide) sh_98 rfl rfl dX3_gather_1 (fun Mc1 q_1 => ?_)
  have q_1 := q_1.symm
  subst q_1
  refine vv_iconst (n := 0) X dX3_gather_4 ?_
  refine vv_istore_n (lv' := [(3, .int (zI 0)), (0, .ref (ad 98)), (1, .ref (ad 6)), (2, .int (zI f))]) X rfl (by decide) rfl dX3_gather_5 ?_
  have loop_6 : ∀ (n : Nat) (M_6 : Mem) (k : Nat) (G : Nat → Int) (a3 : Int), a3 = (k : Int) → (k : Int) ≤ M 6 2 → M_6 = stc M 99 G → (∀ j, j < 101 → G j = SF (M 7) (M 8) k j * f) → (M 6 2 - a3).toNat < n → VV p l e { frames := 2, cells := 0, slots := 0, locals := 42 } s m args below meth c 4 D ad cA (Afr ad s.heap.size) 0 0 (QV below args s D ad cA (fun M1 => ∃ G : Nat → Int, M1 = stc M 99 G ∧ ∀ j, j < 101 → G j = SF (M 7) (M 8) (M 6 2).toNat j * f)) M_6 6 [(0, .ref (ad 98)), (1, .ref (ad 6)), (2, .int (zI f)), (3, .int (zI a3))] [] := by
    intro n
    induction n with
    | zero => intro M_6 k G a3 h3 hk hM hG hn; exact absurd hn (Nat.not_lt_zero _)
    | succ n ih_6 =>
      intro M_6 k G a3 h3 hk hM hG hn
      have e_6_6 : M_6 6 = M 6 := by rw [hM]; rfl
      have e_6_7 : M_6 7 = M 7 := by rw [hM]; rfl
      have e_6_8 : M_6 8 = M 8 := by rw [hM]; rfl
      have h6 : a3.toNat = k := by omega
      have e9 : M_6 99 = G := by rw [hM]; exact stc_s _ _ _
      refine vv_iload_n X 3 rfl rfl dX3_gather_6 ?_
      refine vv_aload_n X 1 rfl rfl dX3_gather_7 ?_
      refine vv_geti (Nf := 3) (ref := (TX6 2).1) (z := (M 6 2)) X (by decide) sh_6 rfl 2 (by decide) u_X3_gather_6 k_X3_gather_18 rfl rfl (show M_6 6 2 = M 6 2 from by rw [e_6_6]) dX3_gather_8 ?_
      refine vv_icmp_ge (tgt := 38) X (by omega) (by omega) dX3_gather_11 (by decide) (fun c_11 => ?_) (fun c_11 => ?_)
      · skip
        exact vv_vret X hm (⟨G, hM, fun j hj => by rw [hG j hj, show (M 6 2).toNat = k by omega]⟩) dX3_gather_38
      · skip
        refine vv_aload_n X 0 rfl rfl dX3_gather_14 ?_
        refine vv_aload_n X 1 rfl rfl dX3_gather_15 ?_
        refine vv_getr (Nf := 3) (ref := (TX6 1).1) X (by decide) sh_6 rfl 1 (by decide) u_X3_gather_6 k_X3_gather_24 rfl rfl dX3_gather_16 ?_
        refine vv_iload_n X 3 rfl rfl dX3_gather_19 ?_
        refine vv_iald (z := (M 8 k)) X (by decide) sh_8 (by decide) (by omega) (by first | (rw [h6]; done) | (rw [h6]; exact (show M_6 8 k = M 8 k from by rw [e_6_8]))) dX3_gather_20 ?_
        refine vv_aload_n X 1 rfl rfl dX3_gather_21 ?_
        refine vv_getr (Nf := 3) (ref := (TX6 0).1) X (by decide) sh_6 rfl 0 (by decide) u_X3_gather_6 k_X3_gather_27 rfl rfl dX3_gather_22 ?_
        refine vv_iload_n X 3 rfl rfl dX3_gather_25 ?_
        refine vv_iald (z := (M 7 k)) X (by decide) sh_7 (by decide) (by omega) (by first | (rw [h6]; done) | (rw [h6]; exact (show M_6 7 k = M 7 k from by rw [e_6_7]))) dX3_gather_26 ?_
        refine vv_iload_n X 2 rfl rfl dX3_gather_27 ?_
        refine vv_imul X dX3_gather_28 ?_
        refine vv_callVV (As := [.int (zI (M 8 k)), .int (zI ((M 7 k) * f))]) (st := []) (Nf := 1) X 2 (c_X3_add l D cA had M_6 (M 8 k) ((M 7 k) * f) (by have := hp k (by omega); omega)) gX3_gather_X3_add rfl (by decide +kernel) ⟨by decide, by decide⟩ (Nat.le_of_ble_eq_true rfl) ⟨by decide, by decide⟩ rfl (by decide) sh_98 rfl rfl dX3_gather_29 (fun Mc29 q_29 => ?_)
        refine vv_iinc (lv' := [(3, .int (zI (a3 + 1))), (0, .ref (ad 98)), (1, .ref (ad 6)), (2, .int (zI f))]) X 3 rfl (by decide) rfl dX3_gather_32 ?_
        refine vv_goto (tgt := 6) X (by decide) dX3_gather_35 ?_
        refine vv_sub (lv' := [(0, .ref (ad 98)), (1, .ref (ad 6)), (2, .int (zI f)), (3, .int (zI (a3 + 1)))]) [1, 2, 3, 0] rfl ?_
        exact ih_6 Mc29 (k + 1) (uz G (M 8 k).toNat (G (M 8 k).toNat + M 7 k * f)) (a3 + 1) (by omega) (by omega) (by rw [q_29, e9, hM, up2_stc]) (fun j hj => by
          rw [SF_suc, Int.add_mul, ← hG j hj]
          have hpk := hp k (by omega)
          unfold uz
          by_cases q : j = (M 8 k).toNat
          · rw [if_pos q, if_pos (by omega), q]
          · rw [if_neg q, if_neg (by omega)]; simp) (by omega)
  refine vv_sub (lv' := [(0, .ref (ad 98)), (1, .ref (ad 6)), (2, .int (zI f)), (3, .int (zI 0))]) [1, 2, 3, 0] rfl ?_
  exact loop_6 _ (stc M 99 (fun j => if (j : Int) < 101 then 0 else M 99 j)) 0 (fun j => if (j : Int) < 101 then 0 else M 99 j) 0 rfl (by omega) rfl (fun j hj => by rw [if_pos (by omega)]; simp [SF, sm]) (Nat.lt_succ_self _)
theorem u_X3_reduce_3 : ∀ w ∈ u_ws RX3 TX3 1, w ∈ wsX3_reduce := by decide +kernel
theorem k_X3_reduce_9 : Cond.fieldLink yX3_reduce.cls 9 (TX3 0).1 (TX3 0).2.1 (TX3 0).2.2.1 ∈ wsX3_reduce := by decide +kernel
set_option maxRecDepth 100000 in
set_option maxHeartbeats 4000000 in
theorem c_X3_reduce (l : Launch) (D : va_G) {ad : Nat → Nat} (cA : Nat → ClassId) (had : adok ad) (M : Mem) (hB : ∀ j : Nat, j < 101 → 0 ≤ M 99 j ∧ M 99 j ≤ 1073741824) : CtV l yX3_reduce wsX3_reduce 2 46 D ad cA [.ref (ad 98)] M (fun M1 => ∃ G : Nat → Int, M1 = stc M 99 G ∧ ∀ j, j < 101 → G j = (M 99 j).tdiv (gfo (M 99) 101)) := by
  refine CtV.of (cc := cX3_reduce) (maxL := 3) (ret := none) had (by decide) rfl (Nat.le_of_ble_eq_true rfl) ?_
  intro p e s m args below meth c X hm
  show VV p l e { frames := 2, cells := 0, slots := 0, locals := 46 } s m args below meth c 3 D ad cA (Afr ad s.heap.size) 0 0 (QV below args s D ad cA (fun M1 => ∃ G : Nat → Int, M1 = stc M 99 G ∧ ∀ j, j < 101 → G j = (M 99 j).tdiv (gfo (M 99) 101))) M 0 [(0, .ref (ad 98))] []
  refine vv_iconst (n := 0) X dX3_reduce_0 ?_
  refine vv_istore_n (lv' := [(1, .int (zI 0)), (0, .ref (ad 98))]) X rfl (by decide) rfl dX3_reduce_1 ?_
  refine vv_iconst (n := 0) X dX3_reduce_2 ?_
  refine vv_istore_n (lv' := [(2, .int (zI 0)), (1, .int (zI 0)), (0, .ref (ad 98))]) X rfl (by decide) rfl dX3_reduce_3 ?_
  have loop_4 : ∀ (n : Nat)  (k : Nat) (a1 : Int) (a2 : Int), a2 = (k : Int) → k ≤ 101 → a1 = gfo (M 99) k → 101 - k < n → VV p l e { frames := 2, cells := 0, slots := 0, locals := 46 } s m args below meth c 3 D ad cA (Afr ad s.heap.size) 0 0 (QV below args s D ad cA (fun M1 => ∃ G : Nat → Int, M1 = stc M 99 G ∧ ∀ j, j < 101 → G j = (M 99 j).tdiv (gfo (M 99) 101))) M 4 [(0, .ref (ad 98)), (1, .int (zI a1)), (2, .int (zI a2))] [] := by
    intro n
    induction n with
    | zero => intro k a1 a2 h2 hk h1 hn; exact absurd hn (Nat.not_lt_zero _)
    | succ n ih_4 =>
      intro k a1 a2 h2 hk h1 hn
      have h6 : a2.toNat = k := by omega
      have hb := gfo_b (F := M 99) (B := 1073741824) (by decide) (n := k) (fun j hj => hB j (by omega))
      refine vv_iload_n X 2 rfl rfl dX3_reduce_4 ?_
      refine vv_bipush (n := 100) X (by decide) dX3_reduce_5 ?_
      refine vv_icmp_gt (tgt := 27) X (by omega) (by omega) dX3_reduce_7 (by decide) (fun c_7 => ?_) (fun c_7 => ?_)
      · skip
        refine vv_iload_n X 1 rfl rfl dX3_reduce_27 ?_
        refine vv_iconst (n := 1) X dX3_reduce_28 ?_
        refine vv_icmp_le (tgt := 56) X (by omega) (by omega) dX3_reduce_29 (by decide) (fun c_29 => ?_) (fun c_29 => ?_)
        · skip
          exact vv_vret X hm (⟨M 99, stc_id.symm, fun j hj => by
            have e : k = 101 := by omega
            rw [e] at h1
            rw [← h1]
            have hd := gfo_dvd (F := M 99) hj
            rw [← h1] at hd
            rcases (show a1 = 0 ∨ a1 = 1 by rw [e, ← h1] at hb; omega) with q | q
            · rw [q] at hd ⊢
              rw [Int.zero_dvd.mp hd]
              rfl
            · rw [q, Int.tdiv_one]⟩) dX3_reduce_56
        · skip
          refine vv_iconst (n := 0) X dX3_reduce_32 ?_
          refine vv_istore_n (lv' := [(2, .int (zI 0)), (0, .ref (ad 98)), (1, .int (zI a1))]) X rfl (by decide) rfl dX3_reduce_33 ?_
          have loop_34 : ∀ (n : Nat) (M_34 : Mem) (k2 : Nat) (G : Nat → Int) (b2 : Int), b2 = (k2 : Int) → k2 ≤ 101 → M_34 = stc M 99 G → (∀ j, G j = if j < k2 then (M 99 j).tdiv a1 else M 99 j) → 101 - k2 < n → VV p l e { frames := 2, cells := 0, slots := 0, locals := 46 } s m args below meth c 3 D ad cA (Afr ad s.heap.size) 0 0 (QV below args s D ad cA (fun M1 => ∃ G : Nat → Int, M1 = stc M 99 G ∧ ∀ j, j < 101 → G j = (M 99 j).tdiv (gfo (M 99) 101))) M_34 34 [(0, .ref (ad 98)), (1, .int (zI a1)), (2, .int (zI b2))] [] := by
            intro n
            induction n with
            | zero => intro M_34 k2 G b2 g2 gk gM gG hn; exact absurd hn (Nat.not_lt_zero _)
            | succ n ih_34 =>
              intro M_34 k2 G b2 g2 gk gM gG hn
              have g6 : b2.toNat = k2 := by omega
              have g9 : M_34 99 = G := by rw [gM]; exact stc_s _ _ _
              have gz : M_34 99 b2.toNat = M 99 k2 := by rw [g9, g6, gG, if_neg (by omega)]
              refine vv_iload_n X 2 rfl rfl dX3_reduce_34 ?_
              refine vv_bipush (n := 100) X (by decide) dX3_reduce_35 ?_
              refine vv_icmp_gt (tgt := 56) X (by omega) (by omega) dX3_reduce_37 (by decide) (fun c_37 => ?_) (fun c_37 => ?_)
              · skip
                exact vv_vret X hm (⟨G, gM, fun j hj => by
                  have e : k = 101 := by omega
                  rw [e] at h1
                  rw [gG j, if_pos (by omega), h1]⟩) dX3_reduce_56
              · skip
                refine vv_aload_n X 0 rfl rfl dX3_reduce_40 ?_
                refine vv_getr (Nf := 1) (ref := (TX3 0).1) X (by decide) sh_98 rfl 0 (by decide) u_X3_reduce_3 k_X3_reduce_9 rfl rfl dX3_reduce_41 ?_
                refine vv_iload_n X 2 rfl rfl dX3_reduce_44 ?_
                refine vv_dup2 X rfl rfl dX3_reduce_45 ?_
                refine vv_iald (z := (M 99 k2)) X (by decide) sh_99 (by decide) (by omega) (gz) dX3_reduce_46 ?_
                refine vv_iload_n X 1 rfl rfl dX3_reduce_47 ?_
                refine vv_idiv X (by have := hB k2 (by omega); omega) (by have := hB k2 (by omega); omega) (by have := hB k2 (by omega); omega) dX3_reduce_48 ?_
                refine vv_iast (ix := k2) X (by decide) sh_99 (by decide) (by omega) (g6) dX3_reduce_49 ?_
                refine vv_iinc (lv' := [(2, .int (zI (b2 + 1))), (0, .ref (ad 98)), (1, .int (zI a1))]) X 2 rfl (by decide) rfl dX3_reduce_50 ?_
                refine vv_goto (tgt := 34) X (by decide) dX3_reduce_53 ?_
                refine vv_sub (lv' := [(0, .ref (ad 98)), (1, .int (zI a1)), (2, .int (zI (b2 + 1)))]) [1, 2, 0] rfl ?_
                exact ih_34 (up2 M_34 99 k2 (Int.tdiv (M 99 k2) a1)) (k2 + 1) (uz G k2 ((M 99 k2).tdiv a1)) (b2 + 1) (by omega) (by omega) (by rw [gM, up2_stc]) (fun j => by
                  unfold uz
                  by_cases q : j = k2
                  · rw [if_pos q, if_pos (by omega), q]
                  · rw [if_neg q, gG j]
                    by_cases q2 : j < k2
                    · rw [if_pos q2, if_pos (by omega)]
                    · rw [if_neg q2, if_neg (by omega)]) (by omega)
          refine vv_sub (lv' := [(0, .ref (ad 98)), (1, .int (zI a1)), (2, .int (zI 0))]) [1, 2, 0] rfl ?_
          exact loop_34 _ M 0 (M 99) 0 rfl (by omega) stc_id.symm (fun j => by rw [if_neg (by omega)]) (Nat.lt_succ_self _)
      · skip
        refine vv_aload_n X 0 rfl rfl dX3_reduce_10 ?_
        refine vv_getr (Nf := 1) (ref := (TX3 0).1) X (by decide) sh_98 rfl 0 (by decide) u_X3_reduce_3 k_X3_reduce_9 rfl rfl dX3_reduce_11 ?_
        refine vv_iload_n X 2 rfl rfl dX3_reduce_14 ?_
        refine vv_iald (z := (M 99 k)) X (by decide) sh_99 (by decide) (by omega) (by first | (rw [h6]; done) | (rw [h6]; exact (rfl))) dX3_reduce_15 ?_
        refine vv_iload_n X 1 rfl rfl dX3_reduce_16 ?_
        refine vv_callNI (As := [.int (zI (M 99 k)), .int (zI a1)]) (st := []) (host := RX8) X 2 (c_X8_commonDivisor l D cA had M (M 99 k) a1 (by have := hB k (by omega); omega) (by omega)) gX3_reduce_X8_commonDivisor_n38 rfl X.2.2.1.2.2.2 (by decide +kernel) (by decide +kernel) (by decide +kernel) ⟨by decide, by decide⟩ (Nat.le_of_ble_eq_true rfl) ⟨by decide, by decide⟩ rfl rfl dX3_reduce_17 (fun z17 Mc17 q_17 => ?_)
        obtain ⟨e_z17, g_z17⟩ := q_17
        have g_z17 := g_z17.symm
        subst g_z17
        refine vv_istore_n (lv' := [(1, .int (zI z17)), (0, .ref (ad 98)), (2, .int (zI a2))]) X rfl (by decide) rfl dX3_reduce_20 ?_
        refine vv_iinc (lv' := [(2, .int (zI (a2 + 1))), (1, .int (zI z17)), (0, .ref (ad 98))]) X 2 rfl (by decide) rfl dX3_reduce_21 ?_
        refine vv_goto (tgt := 4) X (by decide) dX3_reduce_24 ?_
        refine vv_sub (lv' := [(0, .ref (ad 98)), (1, .int (zI z17)), (2, .int (zI (a2 + 1)))]) [2, 1, 0] rfl ?_
        exact ih_4 (k + 1) z17 (a2 + 1) (by omega) (by omega) (by rw [e_z17, h1]; rfl) (by omega)
  refine vv_sub (lv' := [(0, .ref (ad 98)), (1, .int (zI 0)), (2, .int (zI 0))]) [2, 1, 0] rfl ?_
  exact loop_4 _ 0 0 0 rfl (by omega) rfl (Nat.lt_succ_self _)
theorem u_X3_fits_3 : ∀ w ∈ u_ws RX3 TX3 1, w ∈ wsX3_fits := by decide +kernel
theorem k_X3_fits_9 : Cond.fieldLink yX3_fits.cls 9 (TX3 0).1 (TX3 0).2.1 (TX3 0).2.2.1 ∈ wsX3_fits := by decide +kernel
set_option maxRecDepth 100000 in
set_option maxHeartbeats 4000000 in
theorem c_X3_fits (l : Launch) (D : va_G) {ad : Nat → Nat} (cA : Nat → ClassId) (had : adok ad) (M : Mem) (hB : ∀ j : Nat, j < 101 → -1073741824 ≤ M 99 j ∧ M 99 j ≤ 1073741824) : CtI l yX3_fits wsX3_fits 0 0 D ad cA [.ref (ad 98)] M (fun z M1 => z = (if (∀ j : Nat, j < 101 → M 99 j ≤ 999) ∧ cnt (M 99) 101 ≤ 6 then 1 else 0) ∧ M1 = M) := by
  refine CtI.of (cc := cX3_fits) (maxL := 3) (ret := (some .boolean)) had (by decide) rfl (Nat.le_of_ble_eq_true rfl) ?_
  intro p e s m args below meth c X hm
  show VV p l e { frames := 0, cells := 0, slots := 0, locals := 0 } s m args below meth c 3 D ad cA (Afr ad s.heap.size) 0 0 (QI below args s D ad cA (fun z M1 => z = (if (∀ j : Nat, j < 101 → M 99 j ≤ 999) ∧ cnt (M 99) 101 ≤ 6 then 1 else 0) ∧ M1 = M)) M 0 [(0, .ref (ad 98))] []
  refine vv_iconst (n := 0) X dX3_fits_0 ?_
  refine vv_istore_n (lv' := [(1, .int (zI 0)), (0, .ref (ad 98))]) X rfl (by decide) rfl dX3_fits_1 ?_
  refine vv_iconst (n := 0) X dX3_fits_2 ?_
  refine vv_istore_n (lv' := [(2, .int (zI 0)), (1, .int (zI 0)), (0, .ref (ad 98))]) X rfl (by decide) rfl dX3_fits_3 ?_
  have loop_4 : ∀ (n : Nat)  (k : Nat) (a1 : Int) (a2 : Int), a2 = (k : Int) → k ≤ 101 → a1 = cnt (M 99) k → (∀ j, j < k → M 99 j ≤ 999) → 101 - k < n → VV p l e { frames := 0, cells := 0, slots := 0, locals := 0 } s m args below meth c 3 D ad cA (Afr ad s.heap.size) 0 0 (QI below args s D ad cA (fun z M1 => z = (if (∀ j : Nat, j < 101 → M 99 j ≤ 999) ∧ cnt (M 99) 101 ≤ 6 then 1 else 0) ∧ M1 = M)) M 4 [(0, .ref (ad 98)), (1, .int (zI a1)), (2, .int (zI a2))] [] := by
    intro n
    induction n with
    | zero => intro k a1 a2 h2 hk h1 h9 hn; exact absurd hn (Nat.not_lt_zero _)
    | succ n ih_4 =>
      intro k a1 a2 h2 hk h1 h9 hn
      have h6 : a2.toNat = k := by omega
      have hc := cnt_b (M 99) k
      have hj : k < 101 → -1073741824 ≤ M 99 k ∧ M 99 k ≤ 1073741824 := hB k
      refine vv_iload_n X 2 rfl rfl dX3_fits_4 ?_
      refine vv_bipush (n := 100) X (by decide) dX3_fits_5 ?_
      refine vv_icmp_gt (tgt := 42) X (by omega) (by omega) dX3_fits_7 (by decide) (fun c_7 => ?_) (fun c_7 => ?_)
      · skip
        refine vv_iload_n X 1 rfl rfl dX3_fits_42 ?_
        refine vv_bipush (n := 6) X (by decide) dX3_fits_43 ?_
        refine vv_icmp_gt (tgt := 52) X (by omega) (by omega) dX3_fits_45 (by decide) (fun c_45 => ?_) (fun c_45 => ?_)
        · skip
          refine vv_iconst (n := 0) X dX3_fits_52 ?_
          exact vv_zret X hm (by omega) (⟨by
            have e : k = 101 := by omega
            rw [e] at h1 h9
            first | (rw [if_pos ⟨h9, by omega⟩]) | (rw [if_neg (fun q => by have := q.2; omega)]), rfl⟩) dX3_fits_53
        · skip
          refine vv_iconst (n := 1) X dX3_fits_48 ?_
          refine vv_goto (tgt := 53) X (by decide) dX3_fits_49 ?_
          exact vv_zret X hm (by omega) (⟨by
            have e : k = 101 := by omega
            rw [e] at h1 h9
            first | (rw [if_pos ⟨h9, by omega⟩]) | (rw [if_neg (fun q => by have := q.2; omega)]), rfl⟩) dX3_fits_53
      · skip
        refine vv_aload_n X 0 rfl rfl dX3_fits_10 ?_
        refine vv_getr (Nf := 1) (ref := (TX3 0).1) X (by decide) sh_98 rfl 0 (by decide) u_X3_fits_3 k_X3_fits_9 rfl rfl dX3_fits_11 ?_
        refine vv_iload_n X 2 rfl rfl dX3_fits_14 ?_
        refine vv_iald (z := (M 99 k)) X (by decide) sh_99 (by decide) (by omega) (by first | (rw [h6]; done) | (rw [h6]; exact (rfl))) dX3_fits_15 ?_
        refine vv_sipush (n := 999) X (by decide) dX3_fits_16 ?_
        refine vv_icmp_le (tgt := 24) X (by omega) (by omega) dX3_fits_19 (by decide) (fun c_19 => ?_) (fun c_19 => ?_)
        · skip
          refine vv_aload_n X 0 rfl rfl dX3_fits_24 ?_
          refine vv_getr (Nf := 1) (ref := (TX3 0).1) X (by decide) sh_98 rfl 0 (by decide) u_X3_fits_3 k_X3_fits_9 rfl rfl dX3_fits_25 ?_
          refine vv_iload_n X 2 rfl rfl dX3_fits_28 ?_
          refine vv_iald (z := (M 99 k)) X (by decide) sh_99 (by decide) (by omega) (by first | (rw [h6]; done) | (rw [h6]; exact (rfl))) dX3_fits_29 ?_
          refine vv_if_le (tgt := 36) X (by omega) dX3_fits_30 (by decide) (fun c_30 => ?_) (fun c_30 => ?_)
          · skip
            refine vv_iinc (lv' := [(2, .int (zI (a2 + 1))), (0, .ref (ad 98)), (1, .int (zI a1))]) X 2 rfl (by decide) rfl dX3_fits_36 ?_
            refine vv_goto (tgt := 4) X (by decide) dX3_fits_39 ?_
            refine vv_sub (lv' := [(0, .ref (ad 98)), (1, .int (zI a1)), (2, .int (zI (a2 + 1)))]) [1, 2, 0] rfl ?_
            exact ih_4 (k + 1) a1 (a2 + 1) (by omega) (by omega) (by simp only [cnt]; first | rw [if_pos (by assumption)]; omega | rw [if_neg (by omega)]; omega) (fun j hj => by
              rcases (show j < k ∨ j = k by omega) with q | q
              · exact h9 j q
              · rw [q]; assumption) (by omega)
          · skip
            refine vv_iinc (lv' := [(1, .int (zI (a1 + 1))), (0, .ref (ad 98)), (2, .int (zI a2))]) X 1 rfl (by decide) rfl dX3_fits_33 ?_
            refine vv_iinc (lv' := [(2, .int (zI (a2 + 1))), (1, .int (zI (a1 + 1))), (0, .ref (ad 98))]) X 2 rfl (by decide) rfl dX3_fits_36 ?_
            refine vv_goto (tgt := 4) X (by decide) dX3_fits_39 ?_
            refine vv_sub (lv' := [(0, .ref (ad 98)), (1, .int (zI (a1 + 1))), (2, .int (zI (a2 + 1)))]) [2, 1, 0] rfl ?_
            exact ih_4 (k + 1) (a1 + 1) (a2 + 1) (by omega) (by omega) (by simp only [cnt]; first | rw [if_pos (by assumption)]; omega | rw [if_neg (by omega)]; omega) (fun j hj => by
              rcases (show j < k ∨ j = k by omega) with q | q
              · exact h9 j q
              · rw [q]; assumption) (by omega)
        · skip
          refine vv_iconst (n := 0) X dX3_fits_22 ?_
          exact vv_zret X hm (by omega) (⟨(if_neg (fun q => by have := q.1 k (by omega); omega)).symm, rfl⟩) dX3_fits_23
  refine vv_sub (lv' := [(0, .ref (ad 98)), (1, .int (zI 0)), (2, .int (zI 0))]) [2, 1, 0] rfl ?_
  exact loop_4 _ 0 0 0 rfl (by omega) rfl (fun j hj => absurd hj (by omega)) (Nat.lt_succ_self _)
theorem u_X3_pourInto_3 : ∀ w ∈ u_ws RX3 TX3 1, w ∈ wsX3_pourInto := by decide +kernel
theorem u_X3_pourInto_6 : ∀ w ∈ u_ws RX6 TX6 3, w ∈ wsX3_pourInto := by decide +kernel
theorem k_X3_pourInto_9 : Cond.fieldLink yX3_pourInto.cls 9 (TX3 0).1 (TX3 0).2.1 (TX3 0).2.2.1 ∈ wsX3_pourInto := by decide +kernel
theorem k_X3_pourInto_18 : Cond.fieldLink yX3_pourInto.cls 18 (TX6 2).1 (TX6 2).2.1 (TX6 2).2.2.1 ∈ wsX3_pourInto := by decide +kernel
set_option maxRecDepth 100000 in
set_option maxHeartbeats 4000000 in
theorem c_X3_pourInto (l : Launch) (D : va_G) {ad : Nat → Nat} (cA : Nat → ClassId) (had : adok ad) (M : Mem) (hc : cnt (M 99) 101 ≤ 6) (hB : ∀ j : Nat, j < 101 → -1073741824 ≤ M 99 j ∧ M 99 j ≤ 1073741824) : CtV l yX3_pourInto wsX3_pourInto 1 22 D ad cA [.ref (ad 98), .ref (ad 6)] M (fun M1 => eqx M M1 [6, 7, 8] ∧ SplitOf (M 99) (M1 6 2) (M1 7) (M1 8)) := by
  refine CtV.of (cc := cX3_pourInto) (maxL := 3) (ret := none) had (by decide) rfl (Nat.le_of_ble_eq_true rfl) ?_
  intro p e s m args below meth c X hm
  show VV p l e { frames := 1, cells := 0, slots := 0, locals := 22 } s m args below meth c 3 D ad cA (Afr ad s.heap.size) 0 0 (QV below args s D ad cA (fun M1 => eqx M M1 [6, 7, 8] ∧ SplitOf (M 99) (M1 6 2) (M1 7) (M1 8))) M 0 [(0, .ref (ad 98)), (1, .ref (ad 6))] []
  refine vv_aload_n X 1 rfl rfl dX3_pourInto_0 ?_
  refine vv_iconst (n := 0) X dX3_pourInto_1 ?_
  refine vv_puti (Nf := 3) (ref := (TX6 2).1) X (by decide) sh_6 rfl 2 (by decide) u_X3_pourInto_6 k_X3_pourInto_18 rfl tyX6_ok nmX6 rfl (by decide +kernel) rfl rfl dX3_pourInto_2 ?_
  refine vv_iconst (n := 0) X dX3_pourInto_5 ?_
  refine vv_istore_n (lv' := [(2, .int (zI 0)), (0, .ref (ad 98)), (1, .ref (ad 6))]) X rfl (by decide) rfl dX3_pourInto_6 ?_
  have loop_7 : ∀ (n : Nat) (M_7 : Mem) (k : Nat) (a2 : Int), a2 = (k : Int) → k ≤ 101 → eqx M M_7 [6, 7, 8] → SplitTo (M 99) k (M_7 6 2) (M_7 7) (M_7 8) → 101 - k < n → VV p l e { frames := 1, cells := 0, slots := 0, locals := 22 } s m args below meth c 3 D ad cA (Afr ad s.heap.size) 0 0 (QV below args s D ad cA (fun M1 => eqx M M1 [6, 7, 8] ∧ SplitOf (M 99) (M1 6 2) (M1 7) (M1 8))) M_7 7 [(0, .ref (ad 98)), (1, .ref (ad 6)), (2, .int (zI a2))] [] := by
    intro n
    induction n with
    | zero => intro M_7 k a2 h2 hk hE hS hn; exact absurd hn (Nat.not_lt_zero _)
    | succ n ih_7 =>
      intro M_7 k a2 h2 hk hE hS hn
      have e_7_99 : M_7 99 = M 99 := hE 99 (by decide)
      have h6 : a2.toNat = k := by omega
      have hj : k < 101 → -1073741824 ≤ M 99 k ∧ M 99 k ≤ 1073741824 := hB k
      have hc1 := cnt_b (M 99) k
      have hc2 : k < 101 → 0 < M 99 k → cnt (M 99) k + 1 ≤ cnt (M 99) 101 := fun q1 q2 => cnt_lt q1 q2
      have hn := hS.1
      refine vv_iload_n X 2 rfl rfl dX3_pourInto_7 ?_
      refine vv_bipush (n := 100) X (by decide) dX3_pourInto_8 ?_
      refine vv_icmp_gt (tgt := 39) X (by omega) (by omega) dX3_pourInto_10 (by decide) (fun c_10 => ?_) (fun c_10 => ?_)
      · skip
        exact vv_vret X hm (⟨hE, SplitTo_end (by rw [show 101 = k by omega]; exact hS)⟩) dX3_pourInto_39
      · skip
        refine vv_aload_n X 0 rfl rfl dX3_pourInto_13 ?_
        refine vv_getr (Nf := 1) (ref := (TX3 0).1) X (by decide) sh_98 rfl 0 (by decide) u_X3_pourInto_3 k_X3_pourInto_9 rfl rfl dX3_pourInto_14 ?_
        refine vv_iload_n X 2 rfl rfl dX3_pourInto_17 ?_
        refine vv_iald (z := (M 99 k)) X (by decide) sh_99 (by decide) (by omega) (by first | (rw [h6]; done) | (rw [h6]; exact (show M_7 99 k = M 99 k from by rw [e_7_99]))) dX3_pourInto_18 ?_
        refine vv_if_le (tgt := 33) X (by omega) dX3_pourInto_19 (by decide) (fun c_19 => ?_) (fun c_19 => ?_)
        · skip
          refine vv_iinc (lv' := [(2, .int (zI (a2 + 1))), (0, .ref (ad 98)), (1, .ref (ad 6))]) X 2 rfl (by decide) rfl dX3_pourInto_33 ?_
          refine vv_goto (tgt := 7) X (by decide) dX3_pourInto_36 ?_
          refine vv_sub (lv' := [(0, .ref (ad 98)), (1, .ref (ad 6)), (2, .int (zI (a2 + 1)))]) [1, 2, 0] rfl ?_
          exact ih_7 M_7 (k + 1) (a2 + 1) (by omega) (by omega) hE (SplitTo_no hS (by omega)) (by omega)
        · skip
          refine vv_aload_n X 1 rfl rfl dX3_pourInto_22 ?_
          refine vv_iload_n X 2 rfl rfl dX3_pourInto_23 ?_
          refine vv_aload_n X 0 rfl rfl dX3_pourInto_24 ?_
          refine vv_getr (Nf := 1) (ref := (TX3 0).1) X (by decide) sh_98 rfl 0 (by decide) u_X3_pourInto_3 k_X3_pourInto_9 rfl rfl dX3_pourInto_25 ?_
          refine vv_iload_n X 2 rfl rfl dX3_pourInto_28 ?_
          refine vv_iald (z := (M 99 k)) X (by decide) sh_99 (by decide) (by omega) (by first | (rw [h6]; done) | (rw [h6]; exact (show M_7 99 k = M 99 k from by rw [e_7_99]))) dX3_pourInto_29 ?_
          refine vv_callVV (As := [.int (zI a2), .int (zI (M 99 k))]) (st := []) (Nf := 3) X 2 (c_X6_append l D cA had M_7 a2 (M 99 k) (by omega)) gX3_pourInto_X6_append rfl (by decide +kernel) ⟨by decide, by decide⟩ (Nat.le_of_ble_eq_true rfl) ⟨by decide, by decide⟩ rfl (by decide) sh_6 rfl rfl dX3_pourInto_30 (fun Mc30 q_30 => ?_)
          refine vv_iinc (lv' := [(2, .int (zI (a2 + 1))), (0, .ref (ad 98)), (1, .ref (ad 6))]) X 2 rfl (by decide) rfl dX3_pourInto_33 ?_
          refine vv_goto (tgt := 7) X (by decide) dX3_pourInto_36 ?_
          refine vv_sub (lv' := [(0, .ref (ad 98)), (1, .ref (ad 6)), (2, .int (zI (a2 + 1)))]) [1, 2, 0] rfl ?_
          exact ih_7 Mc30 (k + 1) (a2 + 1) (by omega) (by omega) (by rw [q_30, if_pos (by omega)]; exact eqx_up _ _ (eqx_up _ _ (eqx_up _ _ hE (by decide)) (by decide)) (by decide)) (by
            have h := SplitTo_yes hS (show 0 < M 99 k by omega)
            rw [q_30, if_pos (by omega), h2]
            exact h) (by omega)
  refine vv_sub (lv' := [(0, .ref (ad 98)), (1, .ref (ad 6)), (2, .int (zI 0))]) [1, 2, 0] rfl ?_
  exact loop_7 _ (up2 M 6 2 0) 0 0 rfl (by omega) (eqx_up _ _ (eqx_rf _ _) (by decide)) SplitTo_0 (Nat.lt_succ_self _)
