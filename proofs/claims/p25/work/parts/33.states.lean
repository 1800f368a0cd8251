theorem u_X5_copyFrom_5 : ∀ w ∈ u_ws RX5 TX5 5, w ∈ wsX5_copyFrom := by decide +kernel
theorem k_X5_copyFrom_11 : Cond.fieldLink yX5_copyFrom.cls 11 (TX5 0).1 (TX5 0).2.1 (TX5 0).2.2.1 ∈ wsX5_copyFrom := by decide +kernel
theorem k_X5_copyFrom_15 : Cond.fieldLink yX5_copyFrom.cls 15 (TX5 1).1 (TX5 1).2.1 (TX5 1).2.2.1 ∈ wsX5_copyFrom := by decide +kernel
theorem k_X5_copyFrom_18 : Cond.fieldLink yX5_copyFrom.cls 18 (TX5 2).1 (TX5 2).2.1 (TX5 2).2.2.1 ∈ wsX5_copyFrom := by decide +kernel
theorem k_X5_copyFrom_21 : Cond.fieldLink yX5_copyFrom.cls 21 (TX5 3).1 (TX5 3).2.1 (TX5 3).2.2.1 ∈ wsX5_copyFrom := by decide +kernel
theorem k_X5_copyFrom_24 : Cond.fieldLink yX5_copyFrom.cls 24 (TX5 4).1 (TX5 4).2.1 (TX5 4).2.2.1 ∈ wsX5_copyFrom := by decide +kernel
set_option maxRecDepth 100000 in
set_option maxHeartbeats 4000000 in
theorem c_X5_copyFrom (l : Launch) (D : va_G) {ad : Nat → Nat} (cA : Nat → ClassId) (had : adok ad) (M : Mem) (d o : Nat) (hd : d < 10) (ho : o < 10) (hn : d ≠ o) : CtV l yX5_copyFrom wsX5_copyFrom 1 40 D ad cA [.ref (ad (9 * d + 1)), .ref (ad (9 * o + 1))] M (fun M1 => cpR M M1 d o) := by
  refine CtV.of (cc := cX5_copyFrom) (maxL := 2) (ret := none) had (by decide) rfl (Nat.le_of_ble_eq_true rfl) ?_
  intro p e s m args below meth c X hm
  show VV p l e { frames := 1, cells := 0, slots := 0, locals := 40 } s m args below meth c 2 D ad cA (Afr ad s.heap.size) 0 0 (QV below args s D ad cA (fun M1 => cpR M M1 d o)) M 0 [(0, .ref (ad (9 * d + 1))), (1, .ref (ad (9 * o + 1)))] []
  refine vv_aload_n X 1 rfl rfl dX5_copyFrom_0 ?_
  refine vv_getr (Nf := 5) (ref := (TX5 0).1) X (by omega) (sh_g1 ho) rfl 0 (by decide) u_X5_copyFrom_5 k_X5_copyFrom_11 rfl rfl dX5_copyFrom_1 ?_
  refine vv_iconst (n := 0) X dX5_copyFrom_4 ?_
  refine vv_aload_n X 0 rfl rfl dX5_copyFrom_5 ?_
  refine vv_getr (Nf := 5) (ref := (TX5 0).1) X (by omega) (sh_g1 hd) rfl 0 (by decide) u_X5_copyFrom_5 k_X5_copyFrom_11 rfl rfl dX5_copyFrom_6 ?_
  refine vv_iconst (n := 0) X dX5_copyFrom_9 ?_
  refine vv_iconst (n := 5) X dX5_copyFrom_10 ?_
  refine vv_copy X (by omega) (by omega) (sh_g2 hd) (sh_g2 ho) (by decide) (by decide +kernel) (by decide +kernel) (by decide +kernel) (by decide +kernel) (by decide) (Nat.le_of_ble_eq_true rfl) dX5_copyFrom_11 ?_
  refine vv_aload_n X 1 rfl rfl dX5_copyFrom_14 ?_
  refine vv_getr (Nf := 5) (ref := (TX5 1).1) X (by omega) (sh_g1 ho) rfl 1 (by decide) u_X5_copyFrom_5 k_X5_copyFrom_15 rfl rfl dX5_copyFrom_15 ?_
  refine vv_iconst (n := 0) X dX5_copyFrom_18 ?_
  refine vv_aload_n X 0 rfl rfl dX5_copyFrom_19 ?_
  refine vv_getr (Nf := 5) (ref := (TX5 1).1) X (by omega) (sh_g1 hd) rfl 1 (by decide) u_X5_copyFrom_5 k_X5_copyFrom_15 rfl rfl dX5_copyFrom_20 ?_
  refine vv_iconst (n := 0) X dX5_copyFrom_23 ?_
  refine vv_iconst (n := 5) X dX5_copyFrom_24 ?_
  refine vv_copy X (by omega) (by omega) (sh_g3 hd) (sh_g3 ho) (by decide) (by decide +kernel) (by decide +kernel) (by decide +kernel) (by decide +kernel) (by decide) (Nat.le_of_ble_eq_true rfl) dX5_copyFrom_25 ?_
  refine vv_aload_n X 1 rfl rfl dX5_copyFrom_28 ?_
  refine vv_getr (Nf := 5) (ref := (TX5 2).1) X (by omega) (sh_g1 ho) rfl 2 (by decide) u_X5_copyFrom_5 k_X5_copyFrom_18 rfl rfl dX5_copyFrom_29 ?_
  refine vv_iconst (n := 0) X dX5_copyFrom_32 ?_
  refine vv_aload_n X 0 rfl rfl dX5_copyFrom_33 ?_
  refine vv_getr (Nf := 5) (ref := (TX5 2).1) X (by omega) (sh_g1 hd) rfl 2 (by decide) u_X5_copyFrom_5 k_X5_copyFrom_18 rfl rfl dX5_copyFrom_34 ?_
  refine vv_iconst (n := 0) X dX5_copyFrom_37 ?_
  refine vv_iconst (n := 5) X dX5_copyFrom_38 ?_
  refine vv_copy X (by omega) (by omega) (sh_g4 hd) (sh_g4 ho) (by decide) (by decide +kernel) (by decide +kernel) (by decide +kernel) (by decide +kernel) (by decide) (Nat.le_of_ble_eq_true rfl) dX5_copyFrom_39 ?_
  refine vv_aload_n X 1 rfl rfl dX5_copyFrom_42 ?_
  refine vv_getr (Nf := 5) (ref := (TX5 3).1) X (by omega) (sh_g1 ho) rfl 3 (by decide) u_X5_copyFrom_5 k_X5_copyFrom_21 rfl rfl dX5_copyFrom_43 ?_
  refine vv_iconst (n := 0) X dX5_copyFrom_46 ?_
  refine vv_aload_n X 0 rfl rfl dX5_copyFrom_47 ?_
  refine vv_getr (Nf := 5) (ref := (TX5 3).1) X (by omega) (sh_g1 hd) rfl 3 (by decide) u_X5_copyFrom_5 k_X5_copyFrom_21 rfl rfl dX5_copyFrom_48 ?_
  refine vv_iconst (n := 0) X dX5_copyFrom_51 ?_
  refine vv_iconst (n := 5) X dX5_copyFrom_52 ?_
  refine vv_copy X (by omega) (by omega) (sh_g5 hd) (sh_g5 ho) (by decide) (by decide +kernel) (by decide +kernel) (by decide +kernel) (by decide +kernel) (by decide) (Nat.le_of_ble_eq_true rfl) dX5_copyFrom_53 ?_
  refine vv_aload_n X 0 rfl rfl dX5_copyFrom_56 ?_
  refine vv_aload_n X 1 rfl rfl dX5_copyFrom_57 ?_
  refine vv_geti (Nf := 5) (ref := (TX5 4).1) (z := ((stc (stc (stc (stc M (9 * d + 2) (fun k => if Int.toNat 0 ≤ k ∧ k < Int.toNat 0 + Int.toNat 5 then M (9 * o + 2) (Int.toNat 0 + (k - Int.toNat 0)) else M (9 * d + 2) k)) (9 * d + 3) (fun k => if Int.toNat 0 ≤ k ∧ k < Int.toNat 0 + Int.toNat 5 then (stc M (9 * d + 2) (fun k => if Int.toNat 0 ≤ k ∧ k < Int.toNat 0 + Int.toNat 5 then M (9 * o + 2) (Int.toNat 0 + (k - Int.toNat 0)) else M (9 * d + 2) k)) (9 * o + 3) (Int.toNat 0 + (k - Int.toNat 0)) else (stc M (9 * d + 2) (fun k => if Int.toNat 0 ≤ k ∧ k < Int.toNat 0 + Int.toNat 5 then M (9 * o + 2) (Int.toNat 0 + (k - Int.toNat 0)) else M (9 * d + 2) k)) (9 * d + 3) k)) (9 * d + 4) (fun k => if Int.toNat 0 ≤ k ∧ k < Int.toNat 0 + Int.toNat 5 then (stc (stc M (9 * d + 2) (fun k => if Int.toNat 0 ≤ k ∧ k < Int.toNat 0 + Int.toNat 5 then M (9 * o + 2) (Int.toNat 0 + (k - Int.toNat 0)) else M (9 * d + 2) k)) (9 * d + 3) (fun k => if Int.toNat 0 ≤ k ∧ k < Int.toNat 0 + Int.toNat 5 then (stc M (9 * d + 2) (fun k => if Int.toNat 0 ≤ k ∧ k < Int.toNat 0 + Int.toNat 5 then M (9 * o + 2) (Int.toNat 0 + (k - Int.toNat 0)) else M (9 * d + 2) k)) (9 * o + 3) (Int.toNat 0 + (k - Int.toNat 0)) else (stc M (9 * d + 2) (fun k => if Int.toNat 0 ≤ k ∧ k < Int.toNat 0 + Int.toNat 5 then M (9 * o + 2) (Int.toNat 0 + (k - Int.toNat 0)) else M (9 * d + 2) k)) (9 * d + 3) k)) (9 * o + 4) (Int.toNat 0 + (k - Int.toNat 0)) else (stc (stc M (9 * d + 2) (fun k => if Int.toNat 0 ≤ k ∧ k < Int.toNat 0 + Int.toNat 5 then M (9 * o + 2) (Int.toNat 0 + (k - Int.toNat 0)) else M (9 * d + 2) k)) (9 * d + 3) (fun k => if Int.toNat 0 ≤ k ∧ k < Int.toNat 0 + Int.toNat 5 then (stc M (9 * d + 2) (fun k => if Int.toNat 0 ≤ k ∧ k < Int.toNat 0 + Int.toNat 5 then M (9 * o + 2) (Int.toNat 0 + (k - Int.toNat 0)) else M (9 * d + 2) k)) (9 * o + 3) (Int.toNat 0 + (k - Int.toNat 0)) else (stc M (9 * d + 2) (fun k => if Int.toNat 0 ≤ k ∧ k < Int.toNat 0 + Int.toNat 5 then M (9 * o + 2) (Int.toNat 0 + (k - Int.toNat 0)) else M (9 * d + 2) k)) (9 * d + 3) k)) (9 * d + 4) k)) (9 * d + 5) (fun k => if Int.toNat 0 ≤ k ∧ k < Int.toNat 0 + Int.toNat 5 then (stc (stc (stc M (9 * d + 2) (fun k => if Int.toNat 0 ≤ k ∧ k < Int.toNat 0 + Int.toNat 5 then M (9 * o + 2) (Int.toNat 0 + (k - Int.toNat 0)) else M (9 * d + 2) k)) (9 * d + 3) (fun k => if Int.toNat 0 ≤ k ∧ k < Int.toNat 0 + Int.toNat 5 then (stc M (9 * d + 2) (fun k => if Int.toNat 0 ≤ k ∧ k < Int.toNat 0 + Int.toNat 5 then M (9 * o + 2) (Int.toNat 0 + (k - Int.toNat 0)) else M (9 * d + 2) k)) (9 * o + 3) (Int.toNat 0 + (k - Int.toNat 0)) else (stc M (9 * d + 2) (fun k => if Int.toNat 0 ≤ k ∧ k < Int.toNat 0 + Int.toNat 5 then M (9 * o + 2) (Int.toNat 0 + (k - Int.toNat 0)) else M (9 * d + 2) k)) (9 * d + 3) k)) (9 * d + 4) (fun k => if Int.toNat 0 ≤ k ∧ k < Int.toNat 0 + Int.toNat 5 then (stc (stc M (9 * d + 2) (fun k => if Int.toNat 0 ≤ k ∧ k < Int.toNat 0 + Int.toNat 5 then M (9 * o + 2) (Int.toNat 0 + (k - Int.toNat 0)) else M (9 * d + 2) k)) (9 * d + 3) (fun k => if Int.toNat 0 ≤ k ∧ k < Int.toNat 0 + Int.toNat 5 then (stc M (9 * d + 2) (fun k => if Int.toNat 0 ≤ k ∧ k < Int.toNat 0 + Int.toNat 5 then M (9 * o + 2) (Int.toNat 0 + (k - Int.toNat 0)) else M (9 * d + 2) k)) (9 * o + 3) (Int.toNat 0 + (k - Int.toNat 0)) else (stc M (9 * d + 2) (fun k => if Int.toNat 0 ≤ k ∧ k < Int.toNat 0 + Int.toNat 5 then M (9 * o + 2) (Int.toNat 0 + (k - Int.toNat 0)) else M (9 * d + 2) k)) (9 * d + 3) k)) (9 * o + 4) (Int.toNat 0 + (k - Int.toNat 0)) else (stc (stc M (9 * d + 2) (fun k => if Int.toNat 0 ≤ k ∧ k < Int.toNat 0 + Int.toNat 5 then M (9 * o + 2) (Int.toNat 0 + (k - Int.toNat 0)) else M (9 * d + 2) k)) (9 * d + 3) (fun k => if Int.toNat 0 ≤ k ∧ k < Int.toNat 0 + Int.toNat 5 then (stc M (9 * d + 2) (fun k => if Int.toNat 0 ≤ k ∧ k < Int.toNat 0 + Int.toNat 5 then M (9 * o + 2) (Int.toNat 0 + (k - Int.toNat 0)) else M (9 * d + 2) k)) (9 * o + 3) (Int.toNat 0 + (k - Int.toNat 0)) else (stc M (9 * d + 2) (fun k => if Int.toNat 0 ≤ k ∧ k < Int.toNat 0 + Int.toNat 5 then M (9 * o + 2) (Int.toNat 0 + (k - Int.toNat 0)) else M (9 * d + 2) k)) (9 * d + 3) k)) (9 * d + 4) k)) (9 * o + 5) (Int.toNat 0 + (k - Int.toNat 0)) else (stc (stc (stc M (9 * d + 2) (fun k => if Int.toNat 0 ≤ k ∧ k < Int.toNat 0 + Int.toNat 5 then M (9 * o + 2) (Int.toNat 0 + (k - Int.toNat 0)) else M (9 * d + 2) k)) (9 * d + 3) (fun k => if Int.toNat 0 ≤ k ∧ k < Int.toNat 0 + Int.toNat 5 then (stc M (9 * d + 2) (fun k => if Int.toNat 0 ≤ k ∧ k < Int.toNat 0 + Int.toNat 5 then M (9 * o + 2) (Int.toNat 0 + (k - Int.toNat 0)) else M (9 * d + 2) k)) (9 * o + 3) (Int.toNat 0 + (k - Int.toNat 0)) else (stc M (9 * d + 2) (fun k => if Int.toNat 0 ≤ k ∧ k < Int.toNat 0 + Int.toNat 5 then M (9 * o + 2) (Int.toNat 0 + (k - Int.toNat 0)) else M (9 * d + 2) k)) (9 * d + 3) k)) (9 * d + 4) (fun k => if Int.toNat 0 ≤ k ∧ k < Int.toNat 0 + Int.toNat 5 then (stc (stc M (9 * d + 2) (fun k => if Int.toNat 0 ≤ k ∧ k < Int.toNat 0 + Int.toNat 5 then M (9 * o + 2) (Int.toNat 0 + (k - Int.toNat 0)) else M (9 * d + 2) k)) (9 * d + 3) (fun k => if Int.toNat 0 ≤ k ∧ k < Int.toNat 0 + Int.toNat 5 then (stc M (9 * d + 2) (fun k => if Int.toNat 0 ≤ k ∧ k < Int.toNat 0 + Int.toNat 5 then M (9 * o + 2) (Int.toNat 0 + (k - Int.toNat 0)) else M (9 * d + 2) k)) (9 * o + 3) (Int.toNat 0 + (k - Int.toNat 0)) else (stc M (9 * d + 2) (fun k => if Int.toNat 0 ≤ k ∧ k < Int.toNat 0 + Int.toNat 5 then M (9 * o + 2) (Int.toNat 0 + (k - Int.toNat 0)) else M (9 * d + 2) k)) (9 * d + 3) k)) (9 * o + 4) (Int.toNat 0 + (k - Int.toNat 0)) else (stc (stc M (9 * d + 2) (fun k => if Int.toNat 0 ≤ k ∧ k < Int.toNat 0 + Int.toNat 5 then M (9 * o + 2) (Int.toNat 0 + (k - Int.toNat 0)) else M (9 * d + 2) k)) (9 * d + 3) (fun k => if Int.toNat 0 ≤ k ∧ k < Int.toNat 0 + Int.toNat 5 then (stc M (9 * d + 2) (fun k => if Int.toNat 0 ≤ k ∧ k < Int.toNat 0 + Int.toNat 5 then M (9 * o + 2) (Int.toNat 0 + (k - Int.toNat 0)) else M (9 * d + 2) k)) (9 * o + 3) (Int.toNat 0 + (k - Int.toNat 0)) else (stc M (9 * d + 2) (fun k => if Int.toNat 0 ≤ k ∧ k < Int.toNat 0 + Int.toNat 5 then M (9 * o + 2) (Int.toNat 0 + (k - Int.toNat 0)) else M (9 * d + 2) k)) (9 * d + 3) k)) (9 * d + 4) k)) (9 * d + 5) k)) (9 * o + 1) 4)) X (by omega) (sh_g1 ho) rfl 4 (by decide) u_X5_copyFrom_5 k_X5_copyFrom_24 rfl rfl (rfl) dX5_copyFrom_58 ?_
  refine vv_puti (Nf := 5) (ref := (TX5 4).1) X (by omega) (sh_g1 hd) rfl 4 (by decide) u_X5_copyFrom_5 k_X5_copyFrom_24 rfl tyX5_ok nmX5 rfl (by decide +kernel) rfl rfl dX5_copyFrom_61 ?_
  exact vv_vret X hm (by
    refine ⟨fun a ha => ?_, ?_, fun k hk => ⟨?_, ?_, ?_, ?_⟩⟩
    · rw [up2_n _ _ _ (by omega), stc_n _ _ (by omega), stc_n _ _ (by omega), stc_n _ _ (by omega), stc_n _ _ (by omega)]
    · rw [up2_s, stc_n _ _ (by omega), stc_n _ _ (by omega), stc_n _ _ (by omega), stc_n _ _ (by omega)]
    · rw [up2_n _ _ _ (by omega), stc_n _ _ (by omega), stc_n _ _ (by omega), stc_n _ _ (by omega), stc_s]
      show (if _ then _ else _) = _
      rw [if_pos (by omega)]
      congr 1
      omega
    · rw [up2_n _ _ _ (by omega), stc_n _ _ (by omega), stc_n _ _ (by omega), stc_s]
      show (if _ then _ else _) = _
      rw [if_pos (by omega), stc_n _ _ (by omega)]
      congr 1
      omega
    · rw [up2_n _ _ _ (by omega), stc_n _ _ (by omega), stc_s]
      show (if _ then _ else _) = _
      rw [if_pos (by omega), stc_n _ _ (by omega), stc_n _ _ (by omega)]
      congr 1
      omega
    · rw [up2_n _ _ _ (by omega), stc_s]
      show (if _ then _ else _) = _
      rw [if_pos (by omega), stc_n _ _ (by omega), stc_n _ _ (by omega), stc_n _ _ (by omega)]
      congr 1
      omega) dX5_copyFrom_64
theorem u_X6_copyFrom_6 : ∀ w ∈ u_ws RX6 TX6 3, w ∈ wsX6_copyFrom := by decide +kernel
theorem k_X6_copyFrom_9 : Cond.fieldLink yX6_copyFrom.cls 9 (TX6 0).1 (TX6 0).2.1 (TX6 0).2.2.1 ∈ wsX6_copyFrom := by decide +kernel
theorem k_X6_copyFrom_13 : Cond.fieldLink yX6_copyFrom.cls 13 (TX6 1).1 (TX6 1).2.1 (TX6 1).2.2.1 ∈ wsX6_copyFrom := by decide +kernel
theorem k_X6_copyFrom_16 : Cond.fieldLink yX6_copyFrom.cls 16 (TX6 2).1 (TX6 2).2.1 (TX6 2).2.2.1 ∈ wsX6_copyFrom := by decide +kernel
set_option maxRecDepth 100000 in
set_option maxHeartbeats 4000000 in
theorem c_X6_copyFrom (l : Launch) (D : va_G) {ad : Nat → Nat} (cA : Nat → ClassId) (had : adok ad) (M : Mem) (d o : Nat) (hd : d < 10) (ho : o < 10) (hn : d ≠ o) : CtV l yX6_copyFrom wsX6_copyFrom 1 40 D ad cA [.ref (ad (9 * d + 6)), .ref (ad (9 * o + 6))] M (fun M1 => cpS M M1 d o) := by
  refine CtV.of (cc := cX6_copyFrom) (maxL := 2) (ret := none) had (by decide) rfl (Nat.le_of_ble_eq_true rfl) ?_
  intro p e s m args below meth c X hm
  show VV p l e { frames := 1, cells := 0, slots := 0, locals := 40 } s m args below meth c 2 D ad cA (Afr ad s.heap.size) 0 0 (QV below args s D ad cA (fun M1 => cpS M M1 d o)) M 0 [(0, .ref (ad (9 * d + 6))), (1, .ref (ad (9 * o + 6)))] []
  refine vv_aload_n X 1 rfl rfl dX6_copyFrom_0 ?_
  refine vv_getr (Nf := 3) (ref := (TX6 0).1) X (by omega) (sh_g6 ho) rfl 0 (by decide) u_X6_copyFrom_6 k_X6_copyFrom_9 rfl rfl dX6_copyFrom_1 ?_
  refine vv_iconst (n := 0) X dX6_copyFrom_4 ?_
  refine vv_aload_n X 0 rfl rfl dX6_copyFrom_5 ?_
  refine vv_getr (Nf := 3) (ref := (TX6 0).1) X (by omega) (sh_g6 hd) rfl 0 (by decide) u_X6_copyFrom_6 k_X6_copyFrom_9 rfl rfl dX6_copyFrom_6 ?_
  refine vv_iconst (n := 0) X dX6_copyFrom_9 ?_
  refine vv_bipush (n := 6) X (by decide) dX6_copyFrom_10 ?_
  refine vv_copy X (by omega) (by omega) (sh_g7 hd) (sh_g7 ho) (by decide) (by decide +kernel) (by decide +kernel) (by decide +kernel) (by decide +kernel) (by decide) (Nat.le_of_ble_eq_true rfl) dX6_copyFrom_12 ?_
  refine vv_aload_n X 1 rfl rfl dX6_copyFrom_15 ?_
  refine vv_getr (Nf := 3) (ref := (TX6 1).1) X (by omega) (sh_g6 ho) rfl 1 (by decide) u_X6_copyFrom_6 k_X6_copyFrom_13 rfl rfl dX6_copyFrom_16 ?_
  refine vv_iconst (n := 0) X dX6_copyFrom_19 ?_
  refine vv_aload_n X 0 rfl rfl dX6_copyFrom_20 ?_
  refine vv_getr (Nf := 3) (ref := (TX6 1).1) X (by omega) (sh_g6 hd) rfl 1 (by decide) u_X6_copyFrom_6 k_X6_copyFrom_13 rfl rfl dX6_copyFrom_21 ?_
  refine vv_iconst (n := 0) X dX6_copyFrom_24 ?_
  refine vv_bipush (n := 6) X (by decide) dX6_copyFrom_25 ?_
  refine vv_copy X (by omega) (by omega) (sh_g8 hd) (sh_g8 ho) (by decide) (by decide +kernel) (by decide +kernel) (by decide +kernel) (by decide +kernel) (by decide) (Nat.le_of_ble_eq_true rfl) dX6_copyFrom_27 ?_
  refine vv_aload_n X 0 rfl rfl dX6_copyFrom_30 ?_
  refine vv_aload_n X 1 rfl rfl dX6_copyFrom_31 ?_
  refine vv_geti (Nf := 3) (ref := (TX6 2).1) (z := ((stc (stc M (9 * d + 7) (fun k => if Int.toNat 0 ≤ k ∧ k < Int.toNat 0 + Int.toNat 6 then M (9 * o + 7) (Int.toNat 0 + (k - Int.toNat 0)) else M (9 * d + 7) k)) (9 * d + 8) (fun k => if Int.toNat 0 ≤ k ∧ k < Int.toNat 0 + Int.toNat 6 then (stc M (9 * d + 7) (fun k => if Int.toNat 0 ≤ k ∧ k < Int.toNat 0 + Int.toNat 6 then M (9 * o + 7) (Int.toNat 0 + (k - Int.toNat 0)) else M (9 * d + 7) k)) (9 * o + 8) (Int.toNat 0 + (k - Int.toNat 0)) else (stc M (9 * d + 7) (fun k => if Int.toNat 0 ≤ k ∧ k < Int.toNat 0 + Int.toNat 6 then M (9 * o + 7) (Int.toNat 0 + (k - Int.toNat 0)) else M (9 * d + 7) k)) (9 * d + 8) k)) (9 * o + 6) 2)) X (by omega) (sh_g6 ho) rfl 2 (by decide) u_X6_copyFrom_6 k_X6_copyFrom_16 rfl rfl (rfl) dX6_copyFrom_32 ?_
  refine vv_puti (Nf := 3) (ref := (TX6 2).1) X (by omega) (sh_g6 hd) rfl 2 (by decide) u_X6_copyFrom_6 k_X6_copyFrom_16 rfl tyX6_ok nmX6 rfl (by decide +kernel) rfl rfl dX6_copyFrom_35 ?_
  exact vv_vret X hm (by
    refine ⟨fun a ha => ?_, ?_, fun k hk => ⟨?_, ?_⟩⟩
    · rw [up2_n _ _ _ (by omega), stc_n _ _ (by omega), stc_n _ _ (by omega)]
    · rw [up2_s, stc_n _ _ (by omega), stc_n _ _ (by omega)]
    · rw [up2_n _ _ _ (by omega), stc_n _ _ (by omega), stc_s]
      show (if _ then _ else _) = _
      rw [if_pos (by omega)]
      congr 1
      omega
    · rw [up2_n _ _ _ (by omega), stc_s]
      show (if _ then _ else _) = _
      rw [if_pos (by omega), stc_n _ _ (by omega)]
      congr 1
      omega) dX6_copyFrom_38
theorem u_X7_copyFrom_7 : ∀ w ∈ u_ws RX7 TX7 3, w ∈ wsX7_copyFrom := by decide +kernel
theorem k_X7_copyFrom_12 : Cond.fieldLink yX7_copyFrom.cls 12 (TX7 0).1 (TX7 0).2.1 (TX7 0).2.2.1 ∈ wsX7_copyFrom := by decide +kernel
theorem k_X7_copyFrom_21 : Cond.fieldLink yX7_copyFrom.cls 21 (TX7 1).1 (TX7 1).2.1 (TX7 1).2.2.1 ∈ wsX7_copyFrom := by decide +kernel
theorem k_X7_copyFrom_25 : Cond.fieldLink yX7_copyFrom.cls 25 (TX7 2).1 (TX7 2).2.1 (TX7 2).2.2.1 ∈ wsX7_copyFrom := by decide +kernel
set_option maxRecDepth 100000 in
set_option maxHeartbeats 4000000 in
theorem c_X7_copyFrom (l : Launch) (D : va_G) {ad : Nat → Nat} (cA : Nat → ClassId) (had : adok ad) (M : Mem) (d o : Nat) (hd : d < 10) (ho : o < 10) (hn : d ≠ o) : CtV l yX7_copyFrom wsX7_copyFrom 2 61 D ad cA [.ref (ad (9 * d)), .ref (ad (9 * o))] M (fun M1 => cpG M M1 d o) := by
  refine CtV.of (cc := cX7_copyFrom) (maxL := 2) (ret := none) had (by decide) rfl (Nat.le_of_ble_eq_true rfl) ?_
  intro p e s m args below meth c X hm
  show VV p l e { frames := 2, cells := 0, slots := 0, locals := 61 } s m args below meth c 2 D ad cA (Afr ad s.heap.size) 0 0 (QV below args s D ad cA (fun M1 => cpG M M1 d o)) M 0 [(0, .ref (ad (9 * d))), (1, .ref (ad (9 * o)))] []
  refine vv_aload_n X 0 rfl rfl dX7_copyFrom_0 ?_
  refine vv_getr (Nf := 3) (ref := (TX7 0).1) X (by omega) (sh_g0 hd) rfl 0 (by decide) u_X7_copyFrom_7 k_X7_copyFrom_12 rfl rfl dX7_copyFrom_1 ?_
  refine vv_aload_n X 1 rfl rfl dX7_copyFrom_4 ?_
  refine vv_getr (Nf := 3) (ref := (TX7 0).1) X (by omega) (sh_g0 ho) rfl 0 (by decide) u_X7_copyFrom_7 k_X7_copyFrom_12 rfl rfl dX7_copyFrom_5 ?_
  refine vv_callVV (As := [.ref (ad (9 * o + 1))]) (st := []) (Nf := 5) X 1 (c_X5_copyFrom l D cA had M d o (by omega) (by omega) (by omega)) gX7_copyFrom_X5_copyFrom rfl (by decide +kernel) ⟨by decide, by decide⟩ (Nat.le_of_ble_eq_true rfl) ⟨by decide, by decide⟩ rfl (by omega) (sh_g1 hd) rfl rfl dX7_copyFrom_8 (fun Ma q_8 => ?_)
  refine vv_aload_n X 0 rfl rfl dX7_copyFrom_11 ?_
  refine vv_getr (Nf := 3) (ref := (TX7 1).1) X (by omega) (sh_g0 hd) rfl 1 (by decide) u_X7_copyFrom_7 k_X7_copyFrom_21 rfl rfl dX7_copyFrom_12 ?_
  refine vv_aload_n X 1 rfl rfl dX7_copyFrom_15 ?_
  refine vv_getr (Nf := 3) (ref := (TX7 1).1) X (by omega) (sh_g0 ho) rfl 1 (by decide) u_X7_copyFrom_7 k_X7_copyFrom_21 rfl rfl dX7_copyFrom_16 ?_
  refine vv_callVV (As := [.ref (ad (9 * o + 6))]) (st := []) (Nf := 3) X 1 (c_X6_copyFrom l D cA had Ma d o (by omega) (by omega) (by omega)) gX7_copyFrom_X6_copyFrom rfl (by decide +kernel) ⟨by decide, by decide⟩ (Nat.le_of_ble_eq_true rfl) ⟨by decide, by decide⟩ rfl (by omega) (sh_g6 hd) rfl rfl dX7_copyFrom_19 (fun Mb q_19 => ?_)
  refine vv_aload_n X 0 rfl rfl dX7_copyFrom_22 ?_
  refine vv_aload_n X 1 rfl rfl dX7_copyFrom_23 ?_
  refine vv_geti (Nf := 3) (ref := (TX7 2).1) (z := (Mb (9 * o) 2)) X (by omega) (sh_g0 ho) rfl 2 (by decide) u_X7_copyFrom_7 k_X7_copyFrom_25 rfl rfl (rfl) dX7_copyFrom_24 ?_
  refine vv_puti (Nf := 3) (ref := (TX7 2).1) X (by omega) (sh_g0 hd) rfl 2 (by decide) u_X7_copyFrom_7 k_X7_copyFrom_25 rfl tyX7_ok nmX7 rfl (by decide +kernel) rfl rfl dX7_copyFrom_27 ?_
  exact vv_vret X hm (cpG_of hd ho hn q_8 q_19 rfl) dX7_copyFrom_30
theorem u_X2_note_2 : ∀ w ∈ u_ws RX2 TX2 3, w ∈ wsX2_note := by decide +kernel
theorem k_X2_note_11 : Cond.fieldLink yX2_note.cls 11 (TX2 0).1 (TX2 0).2.1 (TX2 0).2.2.1 ∈ wsX2_note := by decide +kernel
theorem k_X2_note_15 : Cond.fieldLink yX2_note.cls 15 (TX2 1).1 (TX2 1).2.1 (TX2 1).2.2.1 ∈ wsX2_note := by decide +kernel
set_option maxRecDepth 100000 in
set_option maxHeartbeats 4000000 in
theorem c_X2_note (l : Launch) (D : va_G) {ad : Nat → Nat} (cA : Nat → ClassId) (had : adok ad) (M : Mem) (d : Nat) (hd : d < 10) (hdn : (d : Int) = M 91 1 + 3) (hnx : 0 ≤ M 91 1 ∧ M 91 1 < 7) : CtV l yX2_note wsX2_note 3 82 D ad cA [.ref (ad 91), .ref (ad 0)] M (fun M1 => cpG M M1 d 0) := by
  refine CtV.of (cc := cX2_note) (maxL := 2) (ret := none) had (by decide) rfl (Nat.le_of_ble_eq_true rfl) ?_
  intro p e s m args below meth c X hm
  show VV p l e { frames := 3, cells := 0, slots := 0, locals := 82 } s m args below meth c 2 D ad cA (Afr ad s.heap.size) 0 0 (QV below args s D ad cA (fun M1 => cpG M M1 d 0)) M 0 [(0, .ref (ad 91)), (1, .ref (ad 0))] []
  refine vv_aload_n X 0 rfl rfl dX2_note_0 ?_
  refine vv_getr (Nf := 3) (ref := (TX2 0).1) X (by decide) sh_91 rfl 0 (by decide) u_X2_note_2 k_X2_note_11 rfl rfl dX2_note_1 ?_
  refine vv_aload_n X 0 rfl rfl dX2_note_4 ?_
  refine vv_geti (Nf := 3) (ref := (TX2 1).1) (z := (M 91 1)) X (by decide) sh_91 rfl 1 (by decide) u_X2_note_2 k_X2_note_15 rfl rfl (rfl) dX2_note_5 ?_
  refine vv_aald (j := (9 * d)) X (by decide) sh_92 (by decide) (by omega) (by omega) dX2_note_8 ?_
  refine vv_aload_n X 1 rfl rfl dX2_note_9 ?_
  refine vv_callVV (As := [.ref (ad 0)]) (st := []) (Nf := 3) X 1 (c_X7_copyFrom l D cA had M d 0 (by omega) (by decide) (by omega)) gX2_note_X7_copyFrom rfl (by decide +kernel) ⟨by decide, by decide⟩ (Nat.le_of_ble_eq_true rfl) ⟨by decide, by decide⟩ rfl (by omega) (sh_g0 hd) rfl rfl dX2_note_10 (fun Mc10 q_10 => ?_)
  exact vv_vret X hm (q_10) dX2_note_13
theorem u_X2_keep_2 : ∀ w ∈ u_ws RX2 TX2 3, w ∈ wsX2_keep := by decide +kernel
theorem k_X2_keep_15 : Cond.fieldLink yX2_keep.cls 15 (TX2 1).1 (TX2 1).2.1 (TX2 1).2.2.1 ∈ wsX2_keep := by decide +kernel
theorem k_X2_keep_19 : Cond.fieldLink yX2_keep.cls 19 (TX2 2).1 (TX2 2).2.1 (TX2 2).2.2.1 ∈ wsX2_keep := by decide +kernel
set_option maxRecDepth 100000 in
set_option maxHeartbeats 4000000 in
theorem c_X2_keep (l : Launch) (D : va_G) {ad : Nat → Nat} (cA : Nat → ClassId) (had : adok ad) (M : Mem) (hnx : 0 ≤ M 91 1 ∧ M 91 1 < 7) (hk : 0 ≤ M 91 2 ∧ M 91 2 ≤ 6) : CtV l yX2_keep wsX2_keep 1 21 D ad cA [.ref (ad 91)] M (fun M1 => M1 = up2 (up2 M 91 1 (if M 91 1 + 1 < 7 then M 91 1 + 1 else 0)) 91 2 (if M 91 2 + 1 < 6 then M 91 2 + 1 else 6)) := by
  refine CtV.of (cc := cX2_keep) (maxL := 1) (ret := none) had (by decide) rfl (Nat.le_of_ble_eq_true rfl) ?_
  intro p e s m args below meth c X hm
  show VV p l e { frames := 1, cells := 0, slots := 0, locals := 21 } s m args below meth c 1 D ad cA (Afr ad s.heap.size) 0 0 (QV below args s D ad cA (fun M1 => M1 = up2 (up2 M 91 1 (if M 91 1 + 1 < 7 then M 91 1 + 1 else 0)) 91 2 (if M 91 2 + 1 < 6 then M 91 2 + 1 else 6))) M 0 [(0, .ref (ad 91))] []
  refine vv_aload_n X 0 rfl rfl dX2_keep_0 ?_
  refine vv_aload_n X 0 rfl rfl dX2_keep_1 ?_
  refine vv_geti (Nf := 3) (ref := (TX2 1).1) (z := (M 91 1)) X (by decide) sh_91 rfl 1 (by decide) u_X2_keep_2 k_X2_keep_15 rfl rfl (rfl) dX2_keep_2 ?_
  refine vv_iconst (n := 1) X dX2_keep_5 ?_
  refine vv_iadd X dX2_keep_6 ?_
  refine vv_bipush (n := 7) X (by decide) dX2_keep_7 ?_
  refine vv_icmp_ge (tgt := 21) X (by omega) (by omega) dX2_keep_9 (by decide) (fun c_9 => ?_) (fun c_9 => ?_)
  · skip
    refine vv_iconst (n := 0) X dX2_keep_21 ?_
    refine vv_puti (Nf := 3) (ref := (TX2 1).1) X (by decide) sh_91 rfl 1 (by decide) u_X2_keep_2 k_X2_keep_15 rfl tyX2_ok nmX2 rfl (by decide +kernel) rfl rfl dX2_keep_22 ?_
    refine vv_aload_n X 0 rfl rfl dX2_keep_25 ?_
    refine vv_aload_n X 0 rfl rfl dX2_keep_26 ?_
    refine vv_geti (Nf := 3) (ref := (TX2 2).1) (z := (M 91 2)) X (by decide) sh_91 rfl 2 (by decide) u_X2_keep_2 k_X2_keep_19 rfl rfl (rfl) dX2_keep_27 ?_
    refine vv_iconst (n := 1) X dX2_keep_30 ?_
    refine vv_iadd X dX2_keep_31 ?_
    refine vv_bipush (n := 6) X (by decide) dX2_keep_32 ?_
    refine vv_mmin X (by omega) (by omega) (by decide +kernel) (by decide +kernel) (by decide +kernel) (by decide +kernel) (by decide) (Nat.le_of_ble_eq_true rfl) ⟨by decide, by decide⟩ dX2_keep_34 ?_
    refine vv_puti (Nf := 3) (ref := (TX2 2).1) X (by decide) sh_91 rfl 2 (by decide) u_X2_keep_2 k_X2_keep_19 rfl tyX2_ok nmX2 rfl (by decide +kernel) rfl rfl dX2_keep_37 ?_
    exact vv_vret X hm (by
      rw [if_neg (show ¬ M 91 1 + 1 < 7 by omega)]
      by_cases q : M 91 2 + 1 < 6
      · rw [if_pos q, if_neg (by omega)]
      · rw [if_neg q]
        by_cases q2 : 6 < M 91 2 + 1
        · rw [if_pos q2]
        · rw [if_neg q2, show M 91 2 + 1 = 6 by omega]) dX2_keep_40
  · skip
    refine vv_aload_n X 0 rfl rfl dX2_keep_12 ?_
    refine vv_geti (Nf := 3) (ref := (TX2 1).1) (z := (M 91 1)) X (by decide) sh_91 rfl 1 (by decide) u_X2_keep_2 k_X2_keep_15 rfl rfl (rfl) dX2_keep_13 ?_
    refine vv_iconst (n := 1) X dX2_keep_16 ?_
    refine vv_iadd X dX2_keep_17 ?_
    refine vv_goto (tgt := 22) X (by decide) dX2_keep_18 ?_
    refine vv_puti (Nf := 3) (ref := (TX2 1).1) X (by decide) sh_91 rfl 1 (by decide) u_X2_keep_2 k_X2_keep_15 rfl tyX2_ok nmX2 rfl (by decide +kernel) rfl rfl dX2_keep_22 ?_
    refine vv_aload_n X 0 rfl rfl dX2_keep_25 ?_
    refine vv_aload_n X 0 rfl rfl dX2_keep_26 ?_
    refine vv_geti (Nf := 3) (ref := (TX2 2).1) (z := (M 91 2)) X (by decide) sh_91 rfl 2 (by decide) u_X2_keep_2 k_X2_keep_19 rfl rfl (rfl) dX2_keep_27 ?_
    refine vv_iconst (n := 1) X dX2_keep_30 ?_
    refine vv_iadd X dX2_keep_31 ?_
    refine vv_bipush (n := 6) X (by decide) dX2_keep_32 ?_
    refine vv_mmin X (by omega) (by omega) (by decide +kernel) (by decide +kernel) (by decide +kernel) (by decide +kernel) (by decide) (Nat.le_of_ble_eq_true rfl) ⟨by decide, by decide⟩ dX2_keep_34 ?_
    refine vv_puti (Nf := 3) (ref := (TX2 2).1) X (by decide) sh_91 rfl 2 (by decide) u_X2_keep_2 k_X2_keep_19 rfl tyX2_ok nmX2 rfl (by decide +kernel) rfl rfl dX2_keep_37 ?_
    exact vv_vret X hm (by
      rw [if_pos (show M 91 1 + 1 < 7 by omega)]
      by_cases q : M 91 2 + 1 < 6
      · rw [if_pos q, if_neg (by omega)]
      · rw [if_neg q]
        by_cases q2 : 6 < M 91 2 + 1
        · rw [if_pos q2]
        · rw [if_neg q2, show M 91 2 + 1 = 6 by omega]) dX2_keep_40
theorem u_X7_movePrior_7 : ∀ w ∈ u_ws RX7 TX7 3, w ∈ wsX7_movePrior := by decide +kernel
theorem k_X7_movePrior_21 : Cond.fieldLink yX7_movePrior.cls 21 (TX7 1).1 (TX7 1).2.1 (TX7 1).2.2.1 ∈ wsX7_movePrior := by decide +kernel
theorem k_X7_movePrior_25 : Cond.fieldLink yX7_movePrior.cls 25 (TX7 2).1 (TX7 2).2.1 (TX7 2).2.2.1 ∈ wsX7_movePrior := by decide +kernel
set_option maxRecDepth 100000 in
set_option maxHeartbeats 4000000 in
theorem c_X7_movePrior (l : Launch) (D : va_G) {ad : Nat → Nat} (cA : Nat → ClassId) (had : adok ad) (M : Mem) (x : Int) (hx : -2147483648 ≤ x ∧ x ≤ 2147483647) : CtI l yX7_movePrior wsX7_movePrior 2 43 D ad cA [.ref (ad 0), .int (zI x)] M (fun z M1 => (1 ≤ x ∧ x ≤ 99 → z = M 0 2 ∧ M1 = up2 (up2 (up2 (up2 (up2 M 0 2 x) 6 2 0) 7 0 1) 8 0 x) 6 2 1) ∧ (¬ (1 ≤ x ∧ x ≤ 99) → z = -2 ∧ M1 = M)) := by
  refine CtI.of (cc := cX7_movePrior) (maxL := 3) (ret := (some .int)) had (by decide) rfl (Nat.le_of_ble_eq_true rfl) ?_
  intro p e s m args below meth c X hm
  show VV p l e { frames := 2, cells := 0, slots := 0, locals := 43 } s m args below meth c 3 D ad cA (Afr ad s.heap.size) 0 0 (QI below args s D ad cA (fun z M1 => (1 ≤ x ∧ x ≤ 99 → z = M 0 2 ∧ M1 = up2 (up2 (up2 (up2 (up2 M 0 2 x) 6 2 0) 7 0 1) 8 0 x) 6 2 1) ∧ (¬ (1 ≤ x ∧ x ≤ 99) → z = -2 ∧ M1 = M))) M 0 [(0, .ref (ad 0)), (1, .int (zI x))] []
  refine vv_iload_n X 1 rfl rfl dX7_movePrior_0 ?_
  refine vv_iconst (n := 1) X dX7_movePrior_1 ?_
  refine vv_icmp_lt (tgt := 11) X (by omega) (by omega) dX7_movePrior_2 (by decide) (fun c_2 => ?_) (fun c_2 => ?_)
  · skip
    refine vv_bipush (n := (-2)) X (by decide) dX7_movePrior_11 ?_
    exact vv_iret X hm (⟨fun q => absurd q (by omega), fun _ => ⟨rfl, rfl⟩⟩) dX7_movePrior_13
  · skip
    refine vv_iload_n X 1 rfl rfl dX7_movePrior_5 ?_
    refine vv_bipush (n := 100) X (by decide) dX7_movePrior_6 ?_
    refine vv_icmp_lt (tgt := 14) X (by omega) (by omega) dX7_movePrior_8 (by decide) (fun c_8 => ?_) (fun c_8 => ?_)
    · skip
      refine vv_aload_n X 0 rfl rfl dX7_movePrior_14 ?_
      refine vv_geti (Nf := 3) (ref := (TX7 2).1) (z := (M 0 2)) X (by decide) sh_0 rfl 2 (by decide) u_X7_movePrior_7 k_X7_movePrior_25 rfl rfl (rfl) dX7_movePrior_15 ?_
      refine vv_istore_n (lv' := [(2, .int (zI (M 0 2))), (0, .ref (ad 0)), (1, .int (zI x))]) X rfl (by decide) rfl dX7_movePrior_18 ?_
      refine vv_aload_n X 1 rfl rfl dX7_movePrior_19 ?_
      refine vv_iload_n X 2 rfl rfl dX7_movePrior_20 ?_
      refine vv_puti (Nf := 3) (ref := (TX7 2).1) X (by decide) sh_0 rfl 2 (by decide) u_X7_movePrior_7 k_X7_movePrior_25 rfl tyX7_ok nmX7 rfl (by decide +kernel) rfl rfl dX7_movePrior_21 ?_
      refine vv_aload_n X 1 rfl rfl dX7_movePrior_24 ?_
      refine vv_getr (Nf := 3) (ref := (TX7 1).1) X (by decide) sh_0 rfl 1 (by decide) u_X7_movePrior_7 k_X7_movePrior_21 rfl rfl dX7_movePrior_25 ?_
      refine vv_iload_n X 2 rfl rfl dX7_movePrior_28 ?_
      refine vv_callVV (As := [.int (zI x)]) (st := []) (Nf := 3) X 1 (c_X6_becomeOne l D cA had (up2 M 0 2 x) x) gX7_movePrior_X6_becomeOne rfl (by decide +kernel) ⟨by decide, by decide⟩ (Nat.le_of_ble_eq_true rfl) ⟨by decide, by decide⟩ rfl (by decide) sh_6 rfl rfl dX7_movePrior_29 (fun Mc29 q_29 => ?_)
      have q_29 := q_29.symm
      subst q_29
      refine vv_iload_n X 0 rfl rfl dX7_movePrior_32 ?_
      exact vv_iret X hm (⟨fun _ => ⟨rfl, rfl⟩, fun q => absurd (show 1 ≤ x ∧ x ≤ 99 by omega) q⟩) dX7_movePrior_33
    · skip
      refine vv_bipush (n := (-2)) X (by decide) dX7_movePrior_11 ?_
      exact vv_iret X hm (⟨fun q => absurd q (by omega), fun _ => ⟨rfl, rfl⟩⟩) dX7_movePrior_13
theorem u_X7_tellMeanValue_6 : ∀ w ∈ u_ws RX6 TX6 3, w ∈ wsX7_tellMeanValue := by decide +kernel
theorem u_X7_tellMeanValue_7 : ∀ w ∈ u_ws RX7 TX7 3, w ∈ wsX7_tellMeanValue := by decide +kernel
theorem k_X7_tellMeanValue_12 : Cond.fieldLink yX7_tellMeanValue.cls 12 (TX7 0).1 (TX7 0).2.1 (TX7 0).2.2.1 ∈ wsX7_tellMeanValue := by decide +kernel
theorem k_X7_tellMeanValue_21 : Cond.fieldLink yX7_tellMeanValue.cls 21 (TX7 1).1 (TX7 1).2.1 (TX7 1).2.2.1 ∈ wsX7_tellMeanValue := by decide +kernel
theorem k_X7_tellMeanValue_40 : Cond.fieldLink yX7_tellMeanValue.cls 40 (TX6 2).1 (TX6 2).2.1 (TX6 2).2.2.1 ∈ wsX7_tellMeanValue := by decide +kernel
theorem k_X7_tellMeanValue_43 : Cond.fieldLink yX7_tellMeanValue.cls 43 (TX6 0).1 (TX6 0).2.1 (TX6 0).2.2.1 ∈ wsX7_tellMeanValue := by decide +kernel
theorem k_X7_tellMeanValue_47 : Cond.fieldLink yX7_tellMeanValue.cls 47 (TX6 1).1 (TX6 1).2.1 (TX6 1).2.2.1 ∈ wsX7_tellMeanValue := by decide +kernel
set_option maxRecDepth 100000 in
set_option maxHeartbeats 4000000 in
theorem c_X7_tellMeanValue (l : Launch) (D : va_G) {ad : Nat → Nat} (cA : Nat → ClassId) (had : adok ad) (M : Mem) (hn : 1 ≤ M 6 2 ∧ M 6 2 ≤ 6) (hw : ∀ k : Nat, (k : Int) < M 6 2 → (1 ≤ M 7 k ∧ M 7 k ≤ 999) ∧ (0 ≤ M 8 k ∧ M 8 k ≤ 100)) (hW : cWR M) : CtV l yX7_tellMeanValue wsX7_tellMeanValue 3 69 D ad cA [.ref (ad 0), .ref (ad 103)] M (fun M1 => M1 = up2 (up2 M 103 0 (frA (sm (fun k => M 7 k * cvl M (M 8 k)) (M 6 2).toNat) (sm (M 7) (M 6 2).toNat))) 103 1 (frB (sm (fun k => M 7 k * cvl M (M 8 k)) (M 6 2).toNat) (sm (M 7) (M 6 2).toNat))) := by
  refine CtV.of (cc := cX7_tellMeanValue) (maxL := 4) (ret := none) had (by decide) rfl (Nat.le_of_ble_eq_true rfl) ?_
  intro p e s m args below meth c X hm
  show VV p l e { frames := 3, cells := 0, slots := 0, locals := 69 } s m args below meth c 4 D ad cA (Afr ad s.heap.size) 0 0 (QV below args s D ad cA (fun M1 => M1 = up2 (up2 M 103 0 (frA (sm (fun k => M 7 k * cvl M (M 8 k)) (M 6 2).toNat) (sm (M 7) (M 6 2).toNat))) 103 1 (frB (sm (fun k => M 7 k * cvl M (M 8 k)) (M 6 2).toNat) (sm (M 7) (M 6 2).toNat)))) M 0 [(0, .ref (ad 0)), (1, .ref (ad 103))] []
  refine vv_iconst (n := 0) X dX7_tellMeanValue_0 ?_
  refine vv_istore_n (lv' := [(2, .int (zI 0)), (0, .ref (ad 0)), (1, .ref (ad 103))]) X rfl (by decide) rfl dX7_tellMeanValue_1 ?_
  refine vv_iconst (n := 0) X dX7_tellMeanValue_2 ?_
  refine vv_istore_n (lv' := [(3, .int (zI 0)), (2, .int (zI 0)), (0, .ref (ad 0)), (1, .ref (ad 103))]) X rfl (by decide) rfl dX7_tellMeanValue_3 ?_
  have loop_4 : ∀ (n : Nat)  (k : Nat) (a2 : Int) (a3 : Int), a3 = (k : Int) → (k : Int) ≤ M 6 2 → a2 = sm (fun k => M 7 k * cvl M (M 8 k)) k → (M 6 2 - a3).toNat < n → VV p l e { frames := 3, cells := 0, slots := 0, locals := 69 } s m args below meth c 4 D ad cA (Afr ad s.heap.size) 0 0 (QV below args s D ad cA (fun M1 => M1 = up2 (up2 M 103 0 (frA (sm (fun k => M 7 k * cvl M (M 8 k)) (M 6 2).toNat) (sm (M 7) (M 6 2).toNat))) 103 1 (frB (sm (fun k => M 7 k * cvl M (M 8 k)) (M 6 2).toNat) (sm (M 7) (M 6 2).toNat)))) M 4 [(0, .ref (ad 0)), (1, .ref (ad 103)), (2, .int (zI a2)), (3, .int (zI a3))] [] := by
    intro n
    induction n with
    | zero => intro k a2 a3 h3 hk h2 hn; exact absurd hn (Nat.not_lt_zero _)
    | succ n ih_4 =>
      intro k a2 a3 h3 hk h2 hn
      have h6 : a3.toNat = k := by omega
      have hwk : (k : Int) < M 6 2 → (1 ≤ M 7 k ∧ M 7 k ≤ 999) ∧ (0 ≤ M 8 k ∧ M 8 k ≤ 100) := hw k
      refine vv_iload_n X 3 rfl rfl dX7_tellMeanValue_4 ?_
      refine vv_aload_n X 0 rfl rfl dX7_tellMeanValue_5 ?_
      refine vv_getr (Nf := 3) (ref := (TX7 1).1) X (by decide) sh_0 rfl 1 (by decide) u_X7_tellMeanValue_7 k_X7_tellMeanValue_21 rfl rfl dX7_tellMeanValue_6 ?_
      refine vv_geti (Nf := 3) (ref := (TX6 2).1) (z := (M 6 2)) X (by decide) sh_6 rfl 2 (by decide) u_X7_tellMeanValue_6 k_X7_tellMeanValue_40 rfl rfl (rfl) dX7_tellMeanValue_9 ?_
      refine vv_icmp_ge (tgt := 50) X (by omega) (by omega) dX7_tellMeanValue_12 (by decide) (fun c_12 => ?_) (fun c_12 => ?_)
      · skip
        refine vv_aload_n X 1 rfl rfl dX7_tellMeanValue_50 ?_
        refine vv_iload_n X 2 rfl rfl dX7_tellMeanValue_51 ?_
        refine vv_aload_n X 0 rfl rfl dX7_tellMeanValue_52 ?_
        refine vv_getr (Nf := 3) (ref := (TX7 1).1) X (by decide) sh_0 rfl 1 (by decide) u_X7_tellMeanValue_7 k_X7_tellMeanValue_21 rfl rfl dX7_tellMeanValue_53 ?_
        refine vv_callVI (As := []) (st := [.int (zI a2), .ref (ad 103)]) (Nf := 3) X 0 (c_X6_weightSum l D cA had M (by omega)) gX7_tellMeanValue_X6_weightSum rfl (by decide +kernel) ⟨by decide, by decide⟩ (Nat.le_of_ble_eq_true rfl) ⟨by decide, by decide⟩ rfl (by decide) sh_6 rfl rfl dX7_tellMeanValue_56 (fun z56 Mc56 q_56 => ?_)
        obtain ⟨e_z56, g_z56⟩ := q_56
        have g_z56 := g_z56.symm
        subst g_z56
        have e7 : (M 6 2).toNat = k := by omega
        have b1 := sm_bm (f := fun k => M 7 k * cvl M (M 8 k)) (a := -989010) (b := 989010) (n := k) (N := 6) (by omega) (by decide) (by decide) (fun j hj => by
          have b3 := hw j (by omega)
          have b4 := vl_b (x := M 8 j) hW.2
          have b2 := mulS (a := M 7 j) (A := 999) (b := cvl M (M 8 j)) (B := 990) (by omega) (by unfold cvl; omega)
          omega)
        have b2 := sm_b (f := M 7) (a := 1) (b := 999) (n := k) (fun j hj => by have := hw j (by omega); omega)
        rw [e7] at e_z56
        refine vv_callVV (As := [.int (zI a2), .int (zI z56)]) (st := []) (Nf := 2) X 2 (c_X1_become_103 l D cA had M a2 z56 (by omega) (by omega) (by omega)) gX7_tellMeanValue_X1_become rfl (by decide +kernel) ⟨by decide, by decide⟩ (Nat.le_of_ble_eq_true rfl) ⟨by decide, by decide⟩ rfl (by decide) sh_103 rfl rfl dX7_tellMeanValue_59 (fun Mc59 q_59 => ?_)
        have q_59 := q_59.symm
        subst q_59
        exact vv_vret X hm (by rw [h2, e_z56, e7]) dX7_tellMeanValue_62
      · skip
        refine vv_iload_n X 2 rfl rfl dX7_tellMeanValue_15 ?_
        refine vv_aload_n X 0 rfl rfl dX7_tellMeanValue_16 ?_
        refine vv_getr (Nf := 3) (ref := (TX7 1).1) X (by decide) sh_0 rfl 1 (by decide) u_X7_tellMeanValue_7 k_X7_tellMeanValue_21 rfl rfl dX7_tellMeanValue_17 ?_
        refine vv_getr (Nf := 3) (ref := (TX6 0).1) X (by decide) sh_6 rfl 0 (by decide) u_X7_tellMeanValue_6 k_X7_tellMeanValue_43 rfl rfl dX7_tellMeanValue_20 ?_
        refine vv_iload_n X 3 rfl rfl dX7_tellMeanValue_23 ?_
        refine vv_iald (z := (M 7 k)) X (by decide) sh_7 (by decide) (by omega) (by first | (rw [h6]; done) | (rw [h6]; exact (rfl))) dX7_tellMeanValue_24 ?_
        refine vv_aload_n X 0 rfl rfl dX7_tellMeanValue_25 ?_
        refine vv_getr (Nf := 3) (ref := (TX7 0).1) X (by decide) sh_0 rfl 0 (by decide) u_X7_tellMeanValue_7 k_X7_tellMeanValue_12 rfl rfl dX7_tellMeanValue_26 ?_
        refine vv_aload_n X 0 rfl rfl dX7_tellMeanValue_29 ?_
        refine vv_getr (Nf := 3) (ref := (TX7 1).1) X (by decide) sh_0 rfl 1 (by decide) u_X7_tellMeanValue_7 k_X7_tellMeanValue_21 rfl rfl dX7_tellMeanValue_30 ?_
        refine vv_getr (Nf := 3) (ref := (TX6 1).1) X (by decide) sh_6 rfl 1 (by decide) u_X7_tellMeanValue_6 k_X7_tellMeanValue_47 rfl rfl dX7_tellMeanValue_33 ?_
        refine vv_iload_n X 3 rfl rfl dX7_tellMeanValue_36 ?_
        refine vv_iald (z := (M 8 k)) X (by decide) sh_8 (by decide) (by omega) (by first | (rw [h6]; done) | (rw [h6]; exact (rfl))) dX7_tellMeanValue_37 ?_
        refine vv_callVI (As := [.int (zI (M 8 k))]) (st := [.int (zI (M 7 k)), .int (zI a2)]) (Nf := 5) X 1 (c_X5_valueAt l D cA had M (M 8 k) (by omega) (by assumption)) gX7_tellMeanValue_X5_valueAt rfl (by decide +kernel) ⟨by decide, by decide⟩ (Nat.le_of_ble_eq_true rfl) ⟨by decide, by decide⟩ rfl (by decide) sh_1 rfl rfl dX7_tellMeanValue_38 (fun z38 Mc38 q_38 => ?_)
        obtain ⟨e_z38, g_z38⟩ := q_38
        have g_z38 := g_z38.symm
        subst g_z38
        refine vv_imul X dX7_tellMeanValue_41 ?_
        refine vv_iadd X dX7_tellMeanValue_42 ?_
        refine vv_istore_n (lv' := [(2, .int (zI (a2 + ((M 7 k) * z38)))), (0, .ref (ad 0)), (1, .ref (ad 103)), (3, .int (zI a3))]) X rfl (by decide) rfl dX7_tellMeanValue_43 ?_
        refine vv_iinc (lv' := [(3, .int (zI (a3 + 1))), (2, .int (zI (a2 + ((M 7 k) * z38)))), (0, .ref (ad 0)), (1, .ref (ad 103))]) X 3 rfl (by decide) rfl dX7_tellMeanValue_44 ?_
        refine vv_goto (tgt := 4) X (by decide) dX7_tellMeanValue_47 ?_
        refine vv_sub (lv' := [(0, .ref (ad 0)), (1, .ref (ad 103)), (2, .int (zI (a2 + ((M 7 k) * z38)))), (3, .int (zI (a3 + 1)))]) [2, 3, 1, 0] rfl ?_
        exact ih_4 (k + 1) (a2 + ((M 7 k) * z38)) (a3 + 1) (by omega) (by omega) (by simp only [sm]; rw [h2, e_z38]) (by omega)
  refine vv_sub (lv' := [(0, .ref (ad 0)), (1, .ref (ad 103)), (2, .int (zI 0)), (3, .int (zI 0))]) [2, 3, 1, 0] rfl ?_
  exact loop_4 _ 0 0 0 rfl (by omega) rfl (Nat.lt_succ_self _)
theorem u_X7_tellMeanWorth_6 : ∀ w ∈ u_ws RX6 TX6 3, w ∈ wsX7_tellMeanWorth := by decide +kernel
theorem u_X7_tellMeanWorth_7 : ∀ w ∈ u_ws RX7 TX7 3, w ∈ wsX7_tellMeanWorth := by decide +kernel
theorem k_X7_tellMeanWorth_12 : Cond.fieldLink yX7_tellMeanWorth.cls 12 (TX7 0).1 (TX7 0).2.1 (TX7 0).2.2.1 ∈ wsX7_tellMeanWorth := by decide +kernel
theorem k_X7_tellMeanWorth_21 : Cond.fieldLink yX7_tellMeanWorth.cls 21 (TX7 1).1 (TX7 1).2.1 (TX7 1).2.2.1 ∈ wsX7_tellMeanWorth := by decide +kernel
theorem k_X7_tellMeanWorth_40 : Cond.fieldLink yX7_tellMeanWorth.cls 40 (TX6 2).1 (TX6 2).2.1 (TX6 2).2.2.1 ∈ wsX7_tellMeanWorth := by decide +kernel
theorem k_X7_tellMeanWorth_43 : Cond.fieldLink yX7_tellMeanWorth.cls 43 (TX6 0).1 (TX6 0).2.1 (TX6 0).2.2.1 ∈ wsX7_tellMeanWorth := by decide +kernel
theorem k_X7_tellMeanWorth_47 : Cond.fieldLink yX7_tellMeanWorth.cls 47 (TX6 1).1 (TX6 1).2.1 (TX6 1).2.2.1 ∈ wsX7_tellMeanWorth := by decide +kernel
set_option maxRecDepth 100000 in
set_option maxHeartbeats 4000000 in
theorem c_X7_tellMeanWorth (l : Launch) (D : va_G) {ad : Nat → Nat} (cA : Nat → ClassId) (had : adok ad) (M : Mem) (r : Int) (hr : 0 ≤ r ∧ r < M 1 4) (hn : 1 ≤ M 6 2 ∧ M 6 2 ≤ 6) (hw : ∀ k : Nat, (k : Int) < M 6 2 → (1 ≤ M 7 k ∧ M 7 k ≤ 999) ∧ (0 ≤ M 8 k ∧ M 8 k ≤ 100)) (hW : cWR M) : CtV l yX7_tellMeanWorth wsX7_tellMeanWorth 3 69 D ad cA [.ref (ad 0), .int (zI r), .ref (ad 103)] M (fun M1 => M1 = up2 (up2 M 103 0 (frA (sm (fun k => M 7 k * (if M 8 k * M 3 r.toNat - (100 - M 8 k) * M 2 r.toNat < 0 then 0 else M 8 k * M 3 r.toNat - (100 - M 8 k) * M 2 r.toNat)) (M 6 2).toNat) (sm (M 7) (M 6 2).toNat * 100))) 103 1 (frB (sm (fun k => M 7 k * (if M 8 k * M 3 r.toNat - (100 - M 8 k) * M 2 r.toNat < 0 then 0 else M 8 k * M 3 r.toNat - (100 - M 8 k) * M 2 r.toNat)) (M 6 2).toNat) (sm (M 7) (M 6 2).toNat * 100))) := by
  refine CtV.of (cc := cX7_tellMeanWorth) (maxL := 5) (ret := none) had (by decide) rfl (Nat.le_of_ble_eq_true rfl) ?_
  intro p e s m args below meth c X hm
  show VV p l e { frames := 3, cells := 0, slots := 0, locals := 69 } s m args below meth c 5 D ad cA (Afr ad s.heap.size) 0 0 (QV below args s D ad cA (fun M1 => M1 = up2 (up2 M 103 0 (frA (sm (fun k => M 7 k * (if M 8 k * M 3 r.toNat - (100 - M 8 k) * M 2 r.toNat < 0 then 0 else M 8 k * M 3 r.toNat - (100 - M 8 k) * M 2 r.toNat)) (M 6 2).toNat) (sm (M 7) (M 6 2).toNat * 100))) 103 1 (frB (sm (fun k => M 7 k * (if M 8 k * M 3 r.toNat - (100 - M 8 k) * M 2 r.toNat < 0 then 0 else M 8 k * M 3 r.toNat - (100 - M 8 k) * M 2 r.toNat)) (M 6 2).toNat) (sm (M 7) (M 6 2).toNat * 100)))) M 0 [(0, .ref (ad 0)), (1, .int (zI r)), (2, .ref (ad 103))] []
  refine vv_iconst (n := 0) X dX7_tellMeanWorth_0 ?_
  refine vv_istore_n (lv' := [(3, .int (zI 0)), (0, .ref (ad 0)), (1, .int (zI r)), (2, .ref (ad 103))]) X rfl (by decide) rfl dX7_tellMeanWorth_1 ?_
  refine vv_iconst (n := 0) X dX7_tellMeanWorth_2 ?_
  refine vv_istore (lv' := [(4, .int (zI 0)), (3, .int (zI 0)), (0, .ref (ad 0)), (1, .int (zI r)), (2, .ref (ad 103))]) X (by decide) rfl dX7_tellMeanWorth_3 ?_
  have loop_5 : ∀ (n : Nat)  (k : Nat) (a2 : Int) (a3 : Int), a3 = (k : Int) → (k : Int) ≤ M 6 2 → a2 = sm (fun k => M 7 k * (if M 8 k * M 3 r.toNat - (100 - M 8 k) * M 2 r.toNat < 0 then 0 else M 8 k * M 3 r.toNat - (100 - M 8 k) * M 2 r.toNat)) k → (M 6 2 - a3).toNat < n → VV p l e { frames := 3, cells := 0, slots := 0, locals := 69 } s m args below meth c 5 D ad cA (Afr ad s.heap.size) 0 0 (QV below args s D ad cA (fun M1 => M1 = up2 (up2 M 103 0 (frA (sm (fun k => M 7 k * (if M 8 k * M 3 r.toNat - (100 - M 8 k) * M 2 r.toNat < 0 then 0 else M 8 k * M 3 r.toNat - (100 - M 8 k) * M 2 r.toNat)) (M 6 2).toNat) (sm (M 7) (M 6 2).toNat * 100))) 103 1 (frB (sm (fun k => M 7 k * (if M 8 k * M 3 r.toNat - (100 - M 8 k) * M 2 r.toNat < 0 then 0 else M 8 k * M 3 r.toNat - (100 - M 8 k) * M 2 r.toNat)) (M 6 2).toNat) (sm (M 7) (M 6 2).toNat * 100)))) M 5 [(0, .ref (ad 0)), (1, .int (zI r)), (2, .ref (ad 103)), (3, .int (zI a2)), (4, .int (zI a3))] [] := by
    intro n
    induction n with
    | zero => intro k a2 a3 h3 hk h2 hn; exact absurd hn (Nat.not_lt_zero _)
    | succ n ih_5 =>
      intro k a2 a3 h3 hk h2 hn
      have h6 : a3.toNat = k := by omega
      have hwk : (k : Int) < M 6 2 → (1 ≤ M 7 k ∧ M 7 k ≤ 999) ∧ (0 ≤ M 8 k ∧ M 8 k ≤ 100) := hw k
      refine vv_iload X 4 rfl dX7_tellMeanWorth_5 ?_
      refine vv_aload_n X 0 rfl rfl dX7_tellMeanWorth_7 ?_
      refine vv_getr (Nf := 3) (ref := (TX7 1).1) X (by decide) sh_0 rfl 1 (by decide) u_X7_tellMeanWorth_7 k_X7_tellMeanWorth_21 rfl rfl dX7_tellMeanWorth_8 ?_
      refine vv_geti (Nf := 3) (ref := (TX6 2).1) (z := (M 6 2)) X (by decide) sh_6 rfl 2 (by decide) u_X7_tellMeanWorth_6 k_X7_tellMeanWorth_40 rfl rfl (rfl) dX7_tellMeanWorth_11 ?_
      refine vv_icmp_ge (tgt := 55) X (by omega) (by omega) dX7_tellMeanWorth_14 (by decide) (fun c_14 => ?_) (fun c_14 => ?_)
      · skip
        refine vv_aload_n X 2 rfl rfl dX7_tellMeanWorth_55 ?_
        refine vv_iload_n X 3 rfl rfl dX7_tellMeanWorth_56 ?_
        refine vv_aload_n X 0 rfl rfl dX7_tellMeanWorth_57 ?_
        refine vv_getr (Nf := 3) (ref := (TX7 1).1) X (by decide) sh_0 rfl 1 (by decide) u_X7_tellMeanWorth_7 k_X7_tellMeanWorth_21 rfl rfl dX7_tellMeanWorth_58 ?_
        refine vv_callVI (As := []) (st := [.int (zI a2), .ref (ad 103)]) (Nf := 3) X 0 (c_X6_weightSum l D cA had M (by omega)) gX7_tellMeanWorth_X6_weightSum rfl (by decide +kernel) ⟨by decide, by decide⟩ (Nat.le_of_ble_eq_true rfl) ⟨by decide, by decide⟩ rfl (by decide) sh_6 rfl rfl dX7_tellMeanWorth_61 (fun z61 Mc61 q_61 => ?_)
        obtain ⟨e_z61, g_z61⟩ := q_61
        have g_z61 := g_z61.symm
        subst g_z61
        refine vv_bipush (n := 100) X (by decide) dX7_tellMeanWorth_64 ?_
        refine vv_imul X dX7_tellMeanWorth_66 ?_
        have e7 : (M 6 2).toNat = k := by omega
        have b1 := sm_bm (f := fun k => M 7 k * (if M 8 k * M 3 r.toNat - (100 - M 8 k) * M 2 r.toNat < 0 then 0 else M 8 k * M 3 r.toNat - (100 - M 8 k) * M 2 r.toNat)) (a := 0) (b := 9890100) (n := k) (N := 6) (by omega) (by decide) (by decide) (fun j hj => by
          have b3 := hw j (by omega)
          have h5 := hW.2.1
          have b5 := hW.2.2 r.toNat (by omega)
          have b6 := mulB (a := M 8 j) (A := 100) (b := M 3 r.toNat) (B := 99) (by omega) (by omega)
          have b7 := mulB (a := 100 - M 8 j) (A := 100) (b := M 2 r.toNat) (B := 99) (by omega) (by omega)
          have b2 := mulB (a := M 7 j) (A := 999) (b := if M 8 j * M 3 r.toNat - (100 - M 8 j) * M 2 r.toNat < 0 then 0 else M 8 j * M 3 r.toNat - (100 - M 8 j) * M 2 r.toNat) (B := 9900) (by omega) (by split <;> omega)
          omega)
        have b2 := sm_b (f := M 7) (a := 1) (b := 999) (n := k) (fun j hj => by have := hw j (by omega); omega)
        rw [e7] at e_z61
        refine vv_callVV (As := [.int (zI a2), .int (zI (z61 * 100))]) (st := []) (Nf := 2) X 2 (c_X1_become_103 l D cA had M a2 (z61 * 100) (by omega) (by omega) (by omega)) gX7_tellMeanWorth_X1_become rfl (by decide +kernel) ⟨by decide, by decide⟩ (Nat.le_of_ble_eq_true rfl) ⟨by decide, by decide⟩ rfl (by decide) sh_103 rfl rfl dX7_tellMeanWorth_67 (fun Mc67 q_67 => ?_)
        have q_67 := q_67.symm
        subst q_67
        exact vv_vret X hm (by rw [h2, e_z61, e7]) dX7_tellMeanWorth_70
      · skip
        refine vv_iload_n X 3 rfl rfl dX7_tellMeanWorth_17 ?_
        refine vv_aload_n X 0 rfl rfl dX7_tellMeanWorth_18 ?_
        refine vv_getr (Nf := 3) (ref := (TX7 1).1) X (by decide) sh_0 rfl 1 (by decide) u_X7_tellMeanWorth_7 k_X7_tellMeanWorth_21 rfl rfl dX7_tellMeanWorth_19 ?_
        refine vv_getr (Nf := 3) (ref := (TX6 0).1) X (by decide) sh_6 rfl 0 (by decide) u_X7_tellMeanWorth_6 k_X7_tellMeanWorth_43 rfl rfl dX7_tellMeanWorth_22 ?_
        refine vv_iload X 4 rfl dX7_tellMeanWorth_25 ?_
        refine vv_iald (z := (M 7 k)) X (by decide) sh_7 (by decide) (by omega) (by first | (rw [h6]; done) | (rw [h6]; exact (rfl))) dX7_tellMeanWorth_27 ?_
        refine vv_aload_n X 0 rfl rfl dX7_tellMeanWorth_28 ?_
        refine vv_getr (Nf := 3) (ref := (TX7 0).1) X (by decide) sh_0 rfl 0 (by decide) u_X7_tellMeanWorth_7 k_X7_tellMeanWorth_12 rfl rfl dX7_tellMeanWorth_29 ?_
        refine vv_iload_n X 1 rfl rfl dX7_tellMeanWorth_32 ?_
        refine vv_aload_n X 0 rfl rfl dX7_tellMeanWorth_33 ?_
        refine vv_getr (Nf := 3) (ref := (TX7 1).1) X (by decide) sh_0 rfl 1 (by decide) u_X7_tellMeanWorth_7 k_X7_tellMeanWorth_21 rfl rfl dX7_tellMeanWorth_34 ?_
        refine vv_getr (Nf := 3) (ref := (TX6 1).1) X (by decide) sh_6 rfl 1 (by decide) u_X7_tellMeanWorth_6 k_X7_tellMeanWorth_47 rfl rfl dX7_tellMeanWorth_37 ?_
        refine vv_iload X 4 rfl dX7_tellMeanWorth_40 ?_
        refine vv_iald (z := (M 8 k)) X (by decide) sh_8 (by decide) (by omega) (by first | (rw [h6]; done) | (rw [h6]; exact (rfl))) dX7_tellMeanWorth_42 ?_
        refine vv_callVI (As := [.int (zI r), .int (zI (M 8 k))]) (st := [.int (zI (M 7 k)), .int (zI a2)]) (Nf := 5) X 2 (c_X5_worthAt l D cA had M r (M 8 k) (by omega) (by omega) (by assumption)) gX7_tellMeanWorth_X5_worthAt rfl (by decide +kernel) ⟨by decide, by decide⟩ (Nat.le_of_ble_eq_true rfl) ⟨by decide, by decide⟩ rfl (by decide) sh_1 rfl rfl dX7_tellMeanWorth_43 (fun z43 Mc43 q_43 => ?_)
        obtain ⟨e_z43, g_z43⟩ := q_43
        have g_z43 := g_z43.symm
        subst g_z43
        refine vv_imul X dX7_tellMeanWorth_46 ?_
        refine vv_iadd X dX7_tellMeanWorth_47 ?_
        refine vv_istore_n (lv' := [(3, .int (zI (a2 + ((M 7 k) * z43)))), (0, .ref (ad 0)), (1, .int (zI r)), (2, .ref (ad 103)), (4, .int (zI a3))]) X rfl (by decide) rfl dX7_tellMeanWorth_48 ?_
        refine vv_iinc (lv' := [(4, .int (zI (a3 + 1))), (3, .int (zI (a2 + ((M 7 k) * z43)))), (0, .ref (ad 0)), (1, .int (zI r)), (2, .ref (ad 103))]) X 4 rfl (by decide) rfl dX7_tellMeanWorth_49 ?_
        refine vv_goto (tgt := 5) X (by decide) dX7_tellMeanWorth_52 ?_
        refine vv_sub (lv' := [(0, .ref (ad 0)), (1, .int (zI r)), (2, .ref (ad 103)), (3, .int (zI (a2 + ((M 7 k) * z43)))), (4, .int (zI (a3 + 1)))]) [2, 3, 4, 1, 0] rfl ?_
        exact ih_5 (k + 1) (a2 + ((M 7 k) * z43)) (a3 + 1) (by omega) (by omega) (by simp only [sm]; rw [h2, e_z43]) (by omega)
  refine vv_sub (lv' := [(0, .ref (ad 0)), (1, .int (zI r)), (2, .ref (ad 103)), (3, .int (zI 0)), (4, .int (zI 0))]) [2, 3, 4, 1, 0] rfl ?_
  exact loop_5 _ 0 0 0 rfl (by omega) rfl (Nat.lt_succ_self _)
theorem u_X5_admit_5 : ∀ w ∈ u_ws RX5 TX5 5, w ∈ wsX5_admit := by decide +kernel
theorem k_X5_admit_11 : Cond.fieldLink yX5_admit.cls 11 (TX5 0).1 (TX5 0).2.1 (TX5 0).2.2.1 ∈ wsX5_admit := by decide +kernel
theorem k_X5_admit_15 : Cond.fieldLink yX5_admit.cls 15 (TX5 1).1 (TX5 1).2.1 (TX5 1).2.2.1 ∈ wsX5_admit := by decide +kernel
theorem k_X5_admit_18 : Cond.fieldLink yX5_admit.cls 18 (TX5 2).1 (TX5 2).2.1 (TX5 2).2.2.1 ∈ wsX5_admit := by decide +kernel
theorem k_X5_admit_21 : Cond.fieldLink yX5_admit.cls 21 (TX5 3).1 (TX5 3).2.1 (TX5 3).2.2.1 ∈ wsX5_admit := by decide +kernel
theorem k_X5_admit_24 : Cond.fieldLink yX5_admit.cls 24 (TX5 4).1 (TX5 4).2.1 (TX5 4).2.2.1 ∈ wsX5_admit := by decide +kernel
set_option maxRecDepth 100000 in
set_option maxHeartbeats 4000000 in
theorem c_X5_admit (l : Launch) (D : va_G) {ad : Nat → Nat} (cA : Nat → ClassId) (had : adok ad) (M : Mem) (a b u v : Int) (ha : -2147483648 ≤ a ∧ a ≤ 2147483647) (hb : -2147483648 ≤ b ∧ b ≤ 2147483647) (hu : -2147483648 ≤ u ∧ u ≤ 2147483647) (hv : -2147483648 ≤ v ∧ v ≤ 2147483647) (hn : 0 ≤ M 1 4 ∧ M 1 4 ≤ 5) : CtI l yX5_admit wsX5_admit 0 0 D ad cA [.ref (ad 1), .int (zI a), .int (zI b), .int (zI u), .int (zI v)] M (fun z M1 => (¬ ((1 ≤ a ∧ a ≤ 99) ∧ (1 ≤ b ∧ b ≤ 99) ∧ (0 ≤ u ∧ u ≤ 99) ∧ (-99 ≤ v ∧ v ≤ 99)) → z = -2 ∧ M1 = M) ∧ (((1 ≤ a ∧ a ≤ 99) ∧ (1 ≤ b ∧ b ≤ 99) ∧ (0 ≤ u ∧ u ≤ 99) ∧ (-99 ≤ v ∧ v ≤ 99)) → (M 1 4 = 5 → z = -4 ∧ M1 = M) ∧ (M 1 4 < 5 → z = M 1 4 ∧ M1 = up2 (up2 (up2 (up2 (up2 M 2 (M 1 4).toNat a) 3 (M 1 4).toNat b) 4 (M 1 4).toNat u) 5 (M 1 4).toNat v) 1 4 (M 1 4 + 1)))) := by
  refine CtI.of (cc := cX5_admit) (maxL := 5) (ret := (some .int)) had (by decide) rfl (Nat.le_of_ble_eq_true rfl) ?_
  intro p e s m args below meth c X hm
  show VV p l e { frames := 0, cells := 0, slots := 0, locals := 0 } s m args below meth c 5 D ad cA (Afr ad s.heap.size) 0 0 (QI below args s D ad cA (fun z M1 => (¬ ((1 ≤ a ∧ a ≤ 99) ∧ (1 ≤ b ∧ b ≤ 99) ∧ (0 ≤ u ∧ u ≤ 99) ∧ (-99 ≤ v ∧ v ≤ 99)) → z = -2 ∧ M1 = M) ∧ (((1 ≤ a ∧ a ≤ 99) ∧ (1 ≤ b ∧ b ≤ 99) ∧ (0 ≤ u ∧ u ≤ 99) ∧ (-99 ≤ v ∧ v ≤ 99)) → (M 1 4 = 5 → z = -4 ∧ M1 = M) ∧ (M 1 4 < 5 → z = M 1 4 ∧ M1 = up2 (up2 (up2 (up2 (up2 M 2 (M 1 4).toNat a) 3 (M 1 4).toNat b) 4 (M 1 4).toNat u) 5 (M 1 4).toNat v) 1 4 (M 1 4 + 1))))) M 0 [(0, .ref (ad 1)), (1, .int (zI a)), (2, .int (zI b)), (3, .int (zI u)), (4, .int (zI v))] []
  refine vv_iload_n X 1 rfl rfl dX5_admit_0 ?_
  refine vv_iconst (n := 1) X dX5_admit_1 ?_
  refine vv_icmp_lt (tgt := 22) X (by omega) (by omega) dX5_admit_2 (by decide) (fun c_2 => ?_) (fun c_2 => ?_)
  · skip
    refine vv_bipush (n := (-2)) X (by decide) dX5_admit_22 ?_
    exact vv_iret X hm (⟨fun q => by first | exact ⟨rfl, rfl⟩ | exact absurd ⟨⟨by omega, by omega⟩, ⟨by omega, by omega⟩, ⟨by omega, by omega⟩, ⟨by omega, by omega⟩⟩ q, fun q => by first | (exfalso; obtain ⟨⟨_, _⟩, ⟨_, _⟩, ⟨_, _⟩, ⟨_, _⟩⟩ := q; omega) | exact ⟨fun w => by first | exact ⟨rfl, rfl⟩ | (exfalso; omega), fun w => by first | exact ⟨by omega, rfl⟩ | (exfalso; omega)⟩⟩) dX5_admit_24
  · skip
    refine vv_iload_n X 1 rfl rfl dX5_admit_5 ?_
    refine vv_bipush (n := 99) X (by decide) dX5_admit_6 ?_
    refine vv_icmp_gt (tgt := 22) X (by omega) (by omega) dX5_admit_8 (by decide) (fun c_8 => ?_) (fun c_8 => ?_)
    · skip
      refine vv_bipush (n := (-2)) X (by decide) dX5_admit_22 ?_
      exact vv_iret X hm (⟨fun q => by first | exact ⟨rfl, rfl⟩ | exact absurd ⟨⟨by omega, by omega⟩, ⟨by omega, by omega⟩, ⟨by omega, by omega⟩, ⟨by omega, by omega⟩⟩ q, fun q => by first | (exfalso; obtain ⟨⟨_, _⟩, ⟨_, _⟩, ⟨_, _⟩, ⟨_, _⟩⟩ := q; omega) | exact ⟨fun w => by first | exact ⟨rfl, rfl⟩ | (exfalso; omega), fun w => by first | exact ⟨by omega, rfl⟩ | (exfalso; omega)⟩⟩) dX5_admit_24
    · skip
      refine vv_iload_n X 2 rfl rfl dX5_admit_11 ?_
      refine vv_iconst (n := 1) X dX5_admit_12 ?_
      refine vv_icmp_lt (tgt := 22) X (by omega) (by omega) dX5_admit_13 (by decide) (fun c_13 => ?_) (fun c_13 => ?_)
      · skip
        refine vv_bipush (n := (-2)) X (by decide) dX5_admit_22 ?_
        exact vv_iret X hm (⟨fun q => by first | exact ⟨rfl, rfl⟩ | exact absurd ⟨⟨by omega, by omega⟩, ⟨by omega, by omega⟩, ⟨by omega, by omega⟩, ⟨by omega, by omega⟩⟩ q, fun q => by first | (exfalso; obtain ⟨⟨_, _⟩, ⟨_, _⟩, ⟨_, _⟩, ⟨_, _⟩⟩ := q; omega) | exact ⟨fun w => by first | exact ⟨rfl, rfl⟩ | (exfalso; omega), fun w => by first | exact ⟨by omega, rfl⟩ | (exfalso; omega)⟩⟩) dX5_admit_24
      · skip
        refine vv_iload_n X 2 rfl rfl dX5_admit_16 ?_
        refine vv_bipush (n := 99) X (by decide) dX5_admit_17 ?_
        refine vv_icmp_le (tgt := 25) X (by omega) (by omega) dX5_admit_19 (by decide) (fun c_19 => ?_) (fun c_19 => ?_)
        · skip
          refine vv_iload_n X 3 rfl rfl dX5_admit_25 ?_
          refine vv_if_lt (tgt := 49) X (by omega) dX5_admit_26 (by decide) (fun c_26 => ?_) (fun c_26 => ?_)
          · skip
            refine vv_bipush (n := (-2)) X (by decide) dX5_admit_49 ?_
            exact vv_iret X hm (⟨fun q => by first | exact ⟨rfl, rfl⟩ | exact absurd ⟨⟨by omega, by omega⟩, ⟨by omega, by omega⟩, ⟨by omega, by omega⟩, ⟨by omega, by omega⟩⟩ q, fun q => by first | (exfalso; obtain ⟨⟨_, _⟩, ⟨_, _⟩, ⟨_, _⟩, ⟨_, _⟩⟩ := q; omega) | exact ⟨fun w => by first | exact ⟨rfl, rfl⟩ | (exfalso; omega), fun w => by first | exact ⟨by omega, rfl⟩ | (exfalso; omega)⟩⟩) dX5_admit_51
          · skip
            refine vv_iload_n X 3 rfl rfl dX5_admit_29 ?_
            refine vv_bipush (n := 99) X (by decide) dX5_admit_30 ?_
            refine vv_icmp_gt (tgt := 49) X (by omega) (by omega) dX5_admit_32 (by decide) (fun c_32 => ?_) (fun c_32 => ?_)
            · skip
              refine vv_bipush (n := (-2)) X (by decide) dX5_admit_49 ?_
              exact vv_iret X hm (⟨fun q => by first | exact ⟨rfl, rfl⟩ | exact absurd ⟨⟨by omega, by omega⟩, ⟨by omega, by omega⟩, ⟨by omega, by omega⟩, ⟨by omega, by omega⟩⟩ q, fun q => by first | (exfalso; obtain ⟨⟨_, _⟩, ⟨_, _⟩, ⟨_, _⟩, ⟨_, _⟩⟩ := q; omega) | exact ⟨fun w => by first | exact ⟨rfl, rfl⟩ | (exfalso; omega), fun w => by first | exact ⟨by omega, rfl⟩ | (exfalso; omega)⟩⟩) dX5_admit_51
            · skip
              refine vv_iload X 4 rfl dX5_admit_35 ?_
              refine vv_bipush (n := (-99)) X (by decide) dX5_admit_37 ?_
              refine vv_icmp_lt (tgt := 49) X (by omega) (by omega) dX5_admit_39 (by decide) (fun c_39 => ?_) (fun c_39 => ?_)
              · skip
                refine vv_bipush (n := (-2)) X (by decide) dX5_admit_49 ?_
                exact vv_iret X hm (⟨fun q => by first | exact ⟨rfl, rfl⟩ | exact absurd ⟨⟨by omega, by omega⟩, ⟨by omega, by omega⟩, ⟨by omega, by omega⟩, ⟨by omega, by omega⟩⟩ q, fun q => by first | (exfalso; obtain ⟨⟨_, _⟩, ⟨_, _⟩, ⟨_, _⟩, ⟨_, _⟩⟩ := q; omega) | exact ⟨fun w => by first | exact ⟨rfl, rfl⟩ | (exfalso; omega), fun w => by first | exact ⟨by omega, rfl⟩ | (exfalso; omega)⟩⟩) dX5_admit_51
              · skip
                refine vv_iload X 4 rfl dX5_admit_42 ?_
                refine vv_bipush (n := 99) X (by decide) dX5_admit_44 ?_
                refine vv_icmp_le (tgt := 52) X (by omega) (by omega) dX5_admit_46 (by decide) (fun c_46 => ?_) (fun c_46 => ?_)
                · skip
                  refine vv_aload_n X 0 rfl rfl dX5_admit_52 ?_
                  refine vv_geti (Nf := 5) (ref := (TX5 4).1) (z := (M 1 4)) X (by decide) sh_1 rfl 4 (by decide) u_X5_admit_5 k_X5_admit_24 rfl rfl (rfl) dX5_admit_53 ?_
                  refine vv_iconst (n := 5) X dX5_admit_56 ?_
                  refine vv_icmp_lt (tgt := 63) X (by omega) (by omega) dX5_admit_57 (by decide) (fun c_57 => ?_) (fun c_57 => ?_)
                  · skip
                    refine vv_aload_n X 0 rfl rfl dX5_admit_63 ?_
                    refine vv_getr (Nf := 5) (ref := (TX5 0).1) X (by decide) sh_1 rfl 0 (by decide) u_X5_admit_5 k_X5_admit_11 rfl rfl dX5_admit_64 ?_
                    refine vv_aload_n X 0 rfl rfl dX5_admit_67 ?_
                    refine vv_geti (Nf := 5) (ref := (TX5 4).1) (z := (M 1 4)) X (by decide) sh_1 rfl 4 (by decide) u_X5_admit_5 k_X5_admit_24 rfl rfl (rfl) dX5_admit_68 ?_
                    refine vv_iload_n X 1 rfl rfl dX5_admit_71 ?_
                    refine vv_iast (ix := (Int.toNat (M 1 4))) X (by decide) sh_2 (by decide) (by omega) (rfl) dX5_admit_72 ?_
                    refine vv_aload_n X 0 rfl rfl dX5_admit_73 ?_
                    refine vv_getr (Nf := 5) (ref := (TX5 1).1) X (by decide) sh_1 rfl 1 (by decide) u_X5_admit_5 k_X5_admit_15 rfl rfl dX5_admit_74 ?_
                    refine vv_aload_n X 0 rfl rfl dX5_admit_77 ?_
                    refine vv_geti (Nf := 5) (ref := (TX5 4).1) (z := (M 1 4)) X (by decide) sh_1 rfl 4 (by decide) u_X5_admit_5 k_X5_admit_24 rfl rfl (rfl) dX5_admit_78 ?_
                    refine vv_iload_n X 2 rfl rfl dX5_admit_81 ?_
                    refine vv_iast (ix := (Int.toNat (M 1 4))) X (by decide) sh_3 (by decide) (by omega) (rfl) dX5_admit_82 ?_
                    refine vv_aload_n X 0 rfl rfl dX5_admit_83 ?_
                    refine vv_getr (Nf := 5) (ref := (TX5 2).1) X (by decide) sh_1 rfl 2 (by decide) u_X5_admit_5 k_X5_admit_18 rfl rfl dX5_admit_84 ?_
                    refine vv_aload_n X 0 rfl rfl dX5_admit_87 ?_
                    refine vv_geti (Nf := 5) (ref := (TX5 4).1) (z := (M 1 4)) X (by decide) sh_1 rfl 4 (by decide) u_X5_admit_5 k_X5_admit_24 rfl rfl (rfl) dX5_admit_88 ?_
                    refine vv_iload_n X 3 rfl rfl dX5_admit_91 ?_
                    refine vv_iast (ix := (Int.toNat (M 1 4))) X (by decide) sh_4 (by decide) (by omega) (rfl) dX5_admit_92 ?_
                    refine vv_aload_n X 0 rfl rfl dX5_admit_93 ?_
                    refine vv_getr (Nf := 5) (ref := (TX5 3).1) X (by decide) sh_1 rfl 3 (by decide) u_X5_admit_5 k_X5_admit_21 rfl rfl dX5_admit_94 ?_
                    refine vv_aload_n X 0 rfl rfl dX5_admit_97 ?_
                    refine vv_geti (Nf := 5) (ref := (TX5 4).1) (z := (M 1 4)) X (by decide) sh_1 rfl 4 (by decide) u_X5_admit_5 k_X5_admit_24 rfl rfl (rfl) dX5_admit_98 ?_
                    refine vv_iload X 4 rfl dX5_admit_101 ?_
                    refine vv_iast (ix := (Int.toNat (M 1 4))) X (by decide) sh_5 (by decide) (by omega) (rfl) dX5_admit_103 ?_
                    refine vv_aload_n X 0 rfl rfl dX5_admit_104 ?_
                    refine vv_dup X rfl dX5_admit_105 ?_
                    refine vv_geti (Nf := 5) (ref := (TX5 4).1) (z := (M 1 4)) X (by decide) sh_1 rfl 4 (by decide) u_X5_admit_5 k_X5_admit_24 rfl rfl (rfl) dX5_admit_106 ?_
                    refine vv_iconst (n := 1) X dX5_admit_109 ?_
                    refine vv_iadd X dX5_admit_110 ?_
                    refine vv_puti (Nf := 5) (ref := (TX5 4).1) X (by decide) sh_1 rfl 4 (by decide) u_X5_admit_5 k_X5_admit_24 rfl tyX5_ok nmX5 rfl (by decide +kernel) rfl rfl dX5_admit_111 ?_
                    refine vv_aload_n X 0 rfl rfl dX5_admit_114 ?_
                    refine vv_geti (Nf := 5) (ref := (TX5 4).1) (z := ((M 1 4) + 1)) X (by decide) sh_1 rfl 4 (by decide) u_X5_admit_5 k_X5_admit_24 rfl rfl (rfl) dX5_admit_115 ?_
                    refine vv_iconst (n := 1) X dX5_admit_118 ?_
                    refine vv_isub X dX5_admit_119 ?_
                    exact vv_iret X hm (⟨fun q => by first | exact ⟨rfl, rfl⟩ | exact absurd ⟨⟨by omega, by omega⟩, ⟨by omega, by omega⟩, ⟨by omega, by omega⟩, ⟨by omega, by omega⟩⟩ q, fun q => by first | (exfalso; obtain ⟨⟨_, _⟩, ⟨_, _⟩, ⟨_, _⟩, ⟨_, _⟩⟩ := q; omega) | exact ⟨fun w => by first | exact ⟨rfl, rfl⟩ | (exfalso; omega), fun w => by first | exact ⟨by omega, rfl⟩ | (exfalso; omega)⟩⟩) dX5_admit_120
                  · skip
                    refine vv_bipush (n := (-4)) X (by decide) dX5_admit_60 ?_
                    exact vv_iret X hm (⟨fun q => by first | exact ⟨rfl, rfl⟩ | exact absurd ⟨⟨by omega, by omega⟩, ⟨by omega, by omega⟩, ⟨by omega, by omega⟩, ⟨by omega, by omega⟩⟩ q, fun q => by first | (exfalso; obtain ⟨⟨_, _⟩, ⟨_, _⟩, ⟨_, _⟩, ⟨_, _⟩⟩ := q; omega) | exact ⟨fun w => by first | exact ⟨rfl, rfl⟩ | (exfalso; omega), fun w => by first | exact ⟨by omega, rfl⟩ | (exfalso; omega)⟩⟩) dX5_admit_62
                · skip
                  refine vv_bipush (n := (-2)) X (by decide) dX5_admit_49 ?_
                  exact vv_iret X hm (⟨fun q => by first | exact ⟨rfl, rfl⟩ | exact absurd ⟨⟨by omega, by omega⟩, ⟨by omega, by omega⟩, ⟨by omega, by omega⟩, ⟨by omega, by omega⟩⟩ q, fun q => by first | (exfalso; obtain ⟨⟨_, _⟩, ⟨_, _⟩, ⟨_, _⟩, ⟨_, _⟩⟩ := q; omega) | exact ⟨fun w => by first | exact ⟨rfl, rfl⟩ | (exfalso; omega), fun w => by first | exact ⟨by omega, rfl⟩ | (exfalso; omega)⟩⟩) dX5_admit_51
        · skip
          refine vv_bipush (n := (-2)) X (by decide) dX5_admit_22 ?_
          exact vv_iret X hm (⟨fun q => by first | exact ⟨rfl, rfl⟩ | exact absurd ⟨⟨by omega, by omega⟩, ⟨by omega, by omega⟩, ⟨by omega, by omega⟩, ⟨by omega, by omega⟩⟩ q, fun q => by first | (exfalso; obtain ⟨⟨_, _⟩, ⟨_, _⟩, ⟨_, _⟩, ⟨_, _⟩⟩ := q; omega) | exact ⟨fun w => by first | exact ⟨rfl, rfl⟩ | (exfalso; omega), fun w => by first | exact ⟨by omega, rfl⟩ | (exfalso; omega)⟩⟩) dX5_admit_24
theorem u_X5_remove_5 : ∀ w ∈ u_ws RX5 TX5 5, w ∈ wsX5_remove := by decide +kernel
theorem k_X5_remove_11 : Cond.fieldLink yX5_remove.cls 11 (TX5 0).1 (TX5 0).2.1 (TX5 0).2.2.1 ∈ wsX5_remove := by decide +kernel
theorem k_X5_remove_15 : Cond.fieldLink yX5_remove.cls 15 (TX5 1).1 (TX5 1).2.1 (TX5 1).2.2.1 ∈ wsX5_remove := by decide +kernel
theorem k_X5_remove_18 : Cond.fieldLink yX5_remove.cls 18 (TX5 2).1 (TX5 2).2.1 (TX5 2).2.2.1 ∈ wsX5_remove := by decide +kernel
theorem k_X5_remove_21 : Cond.fieldLink yX5_remove.cls 21 (TX5 3).1 (TX5 3).2.1 (TX5 3).2.2.1 ∈ wsX5_remove := by decide +kernel
theorem k_X5_remove_24 : Cond.fieldLink yX5_remove.cls 24 (TX5 4).1 (TX5 4).2.1 (TX5 4).2.2.1 ∈ wsX5_remove := by decide +kernel
set_option maxRecDepth 100000 in
set_option maxHeartbeats 4000000 in
theorem c_X5_remove (l : Launch) (D : va_G) {ad : Nat → Nat} (cA : Nat → ClassId) (had : adok ad) (M : Mem) (r : Int) (hr : -2147483648 ≤ r ∧ r ≤ 2147483647) (hn : 0 ≤ M 1 4 ∧ M 1 4 ≤ 5) : CtI l yX5_remove wsX5_remove 1 21 D ad cA [.ref (ad 1), .int (zI r)] M (fun z M1 => (¬ (0 ≤ r ∧ r < M 1 4) → z = -1 ∧ M1 = M) ∧ (0 ≤ r ∧ r < M 1 4 → z = M 1 4 - 1 ∧ eqx M M1 [1, 2, 3, 4, 5] ∧ M1 1 4 = M 1 4 - 1 ∧ (∀ j : Nat, (j : Int) < M 1 4 - 1 → M1 2 j = M 2 (if (j : Int) < r then j else j + 1) ∧ M1 3 j = M 3 (if (j : Int) < r then j else j + 1) ∧ M1 4 j = M 4 (if (j : Int) < r then j else j + 1) ∧ M1 5 j = M 5 (if (j : Int) < r then j else j + 1)))) := by
  refine CtI.of (cc := cX5_remove) (maxL := 3) (ret := (some .int)) had (by decide) rfl (Nat.le_of_ble_eq_true rfl) ?_
  intro p e s m args below meth c X hm
  show VV p l e { frames := 1, cells := 0, slots := 0, locals := 21 } s m args below meth c 3 D ad cA (Afr ad s.heap.size) 0 0 (QI below args s D ad cA (fun z M1 => (¬ (0 ≤ r ∧ r < M 1 4) → z = -1 ∧ M1 = M) ∧ (0 ≤ r ∧ r < M 1 4 → z = M 1 4 - 1 ∧ eqx M M1 [1, 2, 3, 4, 5] ∧ M1 1 4 = M 1 4 - 1 ∧ (∀ j : Nat, (j : Int) < M 1 4 - 1 → M1 2 j = M 2 (if (j : Int) < r then j else j + 1) ∧ M1 3 j = M 3 (if (j : Int) < r then j else j + 1) ∧ M1 4 j = M 4 (if (j : Int) < r then j else j + 1) ∧ M1 5 j = M 5 (if (j : Int) < r then j else j + 1))))) M 0 [(0, .ref (ad 1)), (1, .int (zI r))] []
  refine vv_aload_n X 0 rfl rfl dX5_remove_0 ?_
  refine vv_iload_n X 1 rfl rfl dX5_remove_1 ?_
  refine vv_callVI (As := [.int (zI r)]) (st := []) (Nf := 5) X 1 (c_X5_has l D cA had M r (by omega) (by omega)) gX5_remove_X5_has rfl (by decide +kernel) ⟨by decide, by decide⟩ (Nat.le_of_ble_eq_true rfl) ⟨by decide, by decide⟩ rfl (by decide) sh_1 rfl rfl dX5_remove_2 (fun z2 Mc2 q_2 => ?_)
  obtain ⟨e_z2, g_z2⟩ := q_2
  have g_z2 := g_z2.symm
  subst g_z2
  refine vv_if_ne (tgt := 10) X (by rw [e_z2]; split <;> omega) dX5_remove_5 (by decide) (fun c_5 => ?_) (fun c_5 => ?_)
  · skip
    have hin : 0 ≤ r ∧ r < M 1 4 := Classical.byContradiction fun q => by rw [if_neg q] at e_z2; omega
    refine vv_aload_n X 0 rfl rfl dX5_remove_10 ?_
    refine vv_dup X rfl dX5_remove_11 ?_
    refine vv_geti (Nf := 5) (ref := (TX5 4).1) (z := (M 1 4)) X (by decide) sh_1 rfl 4 (by decide) u_X5_remove_5 k_X5_remove_24 rfl rfl (rfl) dX5_remove_12 ?_
    refine vv_iconst (n := 1) X dX5_remove_15 ?_
    refine vv_isub X dX5_remove_16 ?_
    refine vv_puti (Nf := 5) (ref := (TX5 4).1) X (by decide) sh_1 rfl 4 (by decide) u_X5_remove_5 k_X5_remove_24 rfl tyX5_ok nmX5 rfl (by decide +kernel) rfl rfl dX5_remove_17 ?_
    refine vv_iload_n X 1 rfl rfl dX5_remove_20 ?_
    refine vv_istore_n (lv' := [(2, .int (zI r)), (0, .ref (ad 1)), (1, .int (zI r))]) X rfl (by decide) rfl dX5_remove_21 ?_
    have loop_22 : ∀ (n : Nat) (M_22 : Mem) (a2 : Int), r ≤ a2 ∧ a2 ≤ M 1 4 - 1 → eqx M M_22 [1, 2, 3, 4, 5] → M_22 1 4 = M 1 4 - 1 → (∀ j : Nat, M_22 2 j = M 2 (if (j : Int) < r ∨ a2 ≤ (j : Int) then j else j + 1) ∧ M_22 3 j = M 3 (if (j : Int) < r ∨ a2 ≤ (j : Int) then j else j + 1) ∧ M_22 4 j = M 4 (if (j : Int) < r ∨ a2 ≤ (j : Int) then j else j + 1) ∧ M_22 5 j = M 5 (if (j : Int) < r ∨ a2 ≤ (j : Int) then j else j + 1)) → (M 1 4 - a2).toNat < n → VV p l e { frames := 1, cells := 0, slots := 0, locals := 21 } s m args below meth c 3 D ad cA (Afr ad s.heap.size) 0 0 (QI below args s D ad cA (fun z M1 => (¬ (0 ≤ r ∧ r < M 1 4) → z = -1 ∧ M1 = M) ∧ (0 ≤ r ∧ r < M 1 4 → z = M 1 4 - 1 ∧ eqx M M1 [1, 2, 3, 4, 5] ∧ M1 1 4 = M 1 4 - 1 ∧ (∀ j : Nat, (j : Int) < M 1 4 - 1 → M1 2 j = M 2 (if (j : Int) < r then j else j + 1) ∧ M1 3 j = M 3 (if (j : Int) < r then j else j + 1) ∧ M1 4 j = M 4 (if (j : Int) < r then j else j + 1) ∧ M1 5 j = M 5 (if (j : Int) < r then j else j + 1))))) M_22 22 [(0, .ref (ad 1)), (1, .int (zI r)), (2, .int (zI a2))] [] := by
      intro n
      induction n with
      | zero => intro M_22 a2 h2 hE hc hj hn; exact absurd hn (Nat.not_lt_zero _)
      | succ n ih_22 =>
        intro M_22 a2 h2 hE hc hj hn
        have hja := hj (a2 + 1).toNat
        rw [if_pos (by omega)] at hja
        obtain ⟨ja1, ja2, ja3, ja4⟩ := hja
        refine vv_iload_n X 2 rfl rfl dX5_remove_22 ?_
        refine vv_aload_n X 0 rfl rfl dX5_remove_23 ?_
        refine vv_geti (Nf := 5) (ref := (TX5 4).1) (z := (M 1 4 - 1)) X (by decide) sh_1 rfl 4 (by decide) u_X5_remove_5 k_X5_remove_24 rfl rfl (hc) dX5_remove_24 ?_
        refine vv_icmp_ge (tgt := 92) X (by omega) (by omega) dX5_remove_27 (by decide) (fun c_27 => ?_) (fun c_27 => ?_)
        · skip
          refine vv_aload_n X 0 rfl rfl dX5_remove_92 ?_
          refine vv_geti (Nf := 5) (ref := (TX5 4).1) (z := (M 1 4 - 1)) X (by decide) sh_1 rfl 4 (by decide) u_X5_remove_5 k_X5_remove_24 rfl rfl (hc) dX5_remove_93 ?_
          exact vv_iret X hm (⟨fun q => absurd hin q, fun _ => ⟨rfl, hE, hc, fun j hjn => by
            have hjj := hj j
            have e : (if (j : Int) < r ∨ a2 ≤ (j : Int) then j else j + 1) = (if (j : Int) < r then j else j + 1) := by
              by_cases z : (j : Int) < r
              · rw [if_pos z, if_pos (Or.inl z)]
              · rw [if_neg z, if_neg (by omega)]
            rw [e] at hjj
            exact hjj⟩⟩) dX5_remove_96
        · skip
          refine vv_aload_n X 0 rfl rfl dX5_remove_30 ?_
          refine vv_getr (Nf := 5) (ref := (TX5 0).1) X (by decide) sh_1 rfl 0 (by decide) u_X5_remove_5 k_X5_remove_11 rfl rfl dX5_remove_31 ?_
          refine vv_iload_n X 2 rfl rfl dX5_remove_34 ?_
          refine vv_aload_n X 0 rfl rfl dX5_remove_35 ?_
          refine vv_getr (Nf := 5) (ref := (TX5 0).1) X (by decide) sh_1 rfl 0 (by decide) u_X5_remove_5 k_X5_remove_11 rfl rfl dX5_remove_36 ?_
          refine vv_iload_n X 2 rfl rfl dX5_remove_39 ?_
          refine vv_iconst (n := 1) X dX5_remove_40 ?_
          refine vv_iadd X dX5_remove_41 ?_
          refine vv_iald (z := (M_22 2 (Int.toNat (a2 + 1)))) X (by decide) sh_2 (by decide) (by omega) (rfl) dX5_remove_42 ?_
          refine vv_iast (ix := (Int.toNat a2)) X (by decide) sh_2 (by decide) (by omega) (rfl) dX5_remove_43 ?_
          refine vv_aload_n X 0 rfl rfl dX5_remove_44 ?_
          refine vv_getr (Nf := 5) (ref := (TX5 1).1) X (by decide) sh_1 rfl 1 (by decide) u_X5_remove_5 k_X5_remove_15 rfl rfl dX5_remove_45 ?_
          refine vv_iload_n X 2 rfl rfl dX5_remove_48 ?_
          refine vv_aload_n X 0 rfl rfl dX5_remove_49 ?_
          refine vv_getr (Nf := 5) (ref := (TX5 1).1) X (by decide) sh_1 rfl 1 (by decide) u_X5_remove_5 k_X5_remove_15 rfl rfl dX5_remove_50 ?_
          refine vv_iload_n X 2 rfl rfl dX5_remove_53 ?_
          refine vv_iconst (n := 1) X dX5_remove_54 ?_
          refine vv_iadd X dX5_remove_55 ?_
          refine vv_iald (z := (M_22 3 (Int.toNat (a2 + 1)))) X (by decide) sh_3 (by decide) (by omega) (rfl) dX5_remove_56 ?_
          refine vv_iast (ix := (Int.toNat a2)) X (by decide) sh_3 (by decide) (by omega) (rfl) dX5_remove_57 ?_
          refine vv_aload_n X 0 rfl rfl dX5_remove_58 ?_
          refine vv_getr (Nf := 5) (ref := (TX5 2).1) X (by decide) sh_1 rfl 2 (by decide) u_X5_remove_5 k_X5_remove_18 rfl rfl dX5_remove_59 ?_
          refine vv_iload_n X 2 rfl rfl dX5_remove_62 ?_
          refine vv_aload_n X 0 rfl rfl dX5_remove_63 ?_
          refine vv_getr (Nf := 5) (ref := (TX5 2).1) X (by decide) sh_1 rfl 2 (by decide) u_X5_remove_5 k_X5_remove_18 rfl rfl dX5_remove_64 ?_
          refine vv_iload_n X 2 rfl rfl dX5_remove_67 ?_
          refine vv_iconst (n := 1) X dX5_remove_68 ?_
          refine vv_iadd X dX5_remove_69 ?_
          refine vv_iald (z := (M_22 4 (Int.toNat (a2 + 1)))) X (by decide) sh_4 (by decide) (by omega) (rfl) dX5_remove_70 ?_
          refine vv_iast (ix := (Int.toNat a2)) X (by decide) sh_4 (by decide) (by omega) (rfl) dX5_remove_71 ?_
          refine vv_aload_n X 0 rfl rfl dX5_remove_72 ?_
          refine vv_getr (Nf := 5) (ref := (TX5 3).1) X (by decide) sh_1 rfl 3 (by decide) u_X5_remove_5 k_X5_remove_21 rfl rfl dX5_remove_73 ?_
          refine vv_iload_n X 2 rfl rfl dX5_remove_76 ?_
          refine vv_aload_n X 0 rfl rfl dX5_remove_77 ?_
          refine vv_getr (Nf := 5) (ref := (TX5 3).1) X (by decide) sh_1 rfl 3 (by decide) u_X5_remove_5 k_X5_remove_21 rfl rfl dX5_remove_78 ?_
          refine vv_iload_n X 2 rfl rfl dX5_remove_81 ?_
          refine vv_iconst (n := 1) X dX5_remove_82 ?_
          refine vv_iadd X dX5_remove_83 ?_
          refine vv_iald (z := (M_22 5 (Int.toNat (a2 + 1)))) X (by decide) sh_5 (by decide) (by omega) (rfl) dX5_remove_84 ?_
          refine vv_iast (ix := (Int.toNat a2)) X (by decide) sh_5 (by decide) (by omega) (rfl) dX5_remove_85 ?_
          refine vv_iinc (lv' := [(2, .int (zI (a2 + 1))), (0, .ref (ad 1)), (1, .int (zI r))]) X 2 rfl (by decide) rfl dX5_remove_86 ?_
          refine vv_goto (tgt := 22) X (by decide) dX5_remove_89 ?_
          refine vv_sub (lv' := [(0, .ref (ad 1)), (1, .int (zI r)), (2, .int (zI (a2 + 1)))]) [1, 2, 0] rfl ?_
          exact ih_22 (up2 (up2 (up2 (up2 M_22 2 (Int.toNat a2) (M_22 2 (Int.toNat (a2 + 1)))) 3 (Int.toNat a2) (M_22 3 (Int.toNat (a2 + 1)))) 4 (Int.toNat a2) (M_22 4 (Int.toNat (a2 + 1)))) 5 (Int.toNat a2) (M_22 5 (Int.toNat (a2 + 1)))) (a2 + 1) (by omega) (eqx_up _ _ (eqx_up _ _ (eqx_up _ _ (eqx_up _ _ hE (by decide)) (by decide)) (by decide)) (by decide)) hc (fun j => by
            have hjj := hj j
            by_cases q : j = a2.toNat
            · rw [if_neg (by omega), q, show a2.toNat + 1 = (a2 + 1).toNat by omega]
              refine ⟨?_, ?_, ?_, ?_⟩ <;> simp [up2, stc, uz, ja1, ja2, ja3, ja4]
            · have e : (if (j : Int) < r ∨ a2 + 1 ≤ (j : Int) then j else j + 1) = (if (j : Int) < r ∨ a2 ≤ (j : Int) then j else j + 1) := by
                by_cases z : (j : Int) < r ∨ a2 ≤ (j : Int)
                · rw [if_pos z, if_pos (by omega)]
                · rw [if_neg z, if_neg (by omega)]
              rw [e]
              obtain ⟨k1, k2, k3, k4⟩ := hjj
              refine ⟨?_, ?_, ?_, ?_⟩ <;> simp [up2, stc, uz, q, k1, k2, k3, k4]) (by omega)
    refine vv_sub (lv' := [(0, .ref (ad 1)), (1, .int (zI r)), (2, .int (zI r))]) [1, 2, 0] rfl ?_
    exact loop_22 _ (up2 M 1 4 ((M 1 4) - 1)) r (by omega) (eqx_up _ _ (eqx_rf _ _) (by decide)) (up2_s _ _ _ _) (fun j => by
      have e : (if (j : Int) < r ∨ r ≤ (j : Int) then j else j + 1) = j := if_pos (by omega)
      rw [e]
      exact ⟨rfl, rfl, rfl, rfl⟩) (Nat.lt_succ_self _)
  · skip
    have hin : ¬ (0 ≤ r ∧ r < M 1 4) := fun q => by rw [if_pos q] at e_z2; omega
    refine vv_iconst (n := (-1)) X dX5_remove_8 ?_
    exact vv_iret X hm (⟨fun _ => ⟨rfl, rfl⟩, fun q => absurd q hin⟩) dX5_remove_9
