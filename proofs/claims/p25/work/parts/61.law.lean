set_option maxRecDepth 100000 in
set_option maxHeartbeats 4000000 in
theorem c_L_low (l : Launch) (D : va_G) {ad : Nat → Nat} (cA : Nat → ClassId) (had : adok ad) (M : Mem) (v n : Int) (hn : 0 < n ∧ n ≤ 2147483647) : CtI l yL_low wsL_low 0 0 D ad cA [.int (zI v), .int (zI n)] M (fun z M1 => (0 ≤ z ∧ z < n) ∧ M1 = M) := by
  refine CtI.of (cc := cL_low) (maxL := 2) (ret := (some .int)) had (by decide) rfl (Nat.le_of_ble_eq_true rfl) ?_
  intro p e s m args below meth c X hm
  show VV p l e { frames := 0, cells := 0, slots := 0, locals := 0 } s m args below meth c 2 D ad cA (Afr ad s.heap.size) 0 0 (QI below args s D ad cA (fun z M1 => (0 ≤ z ∧ z < n) ∧ M1 = M)) M 0 [(0, .int (zI v)), (1, .int (zI n))] []
  refine vv_iload_n X 0 rfl rfl dL_low_0 ?_
  refine vv_ldc (n := 2147483647) (v := 2147483647) X (by decide +kernel) (by decide) dL_low_1 ?_
  obtain ⟨w, hw, ew⟩ := and31 v
  refine vv_iand (a := w) X (ew) dL_low_3 ?_
  refine vv_iload_n X 1 rfl rfl dL_low_4 ?_
  refine vv_irem X (by omega) (by omega) (by omega) dL_low_5 ?_
  exact vv_iret X hm (⟨by have := gcdM (x := w) (y := n) hw.1 hn.1; omega, rfl⟩) dL_low_6
set_option maxRecDepth 100000 in
set_option maxHeartbeats 4000000 in
theorem c_L_gcd (l : Launch) (D : va_G) {ad : Nat → Nat} (cA : Nat → ClassId) (had : adok ad) (M : Mem) (a b : Int) (ha : -1073741824 ≤ a ∧ a ≤ 1073741824) (hb : -1073741824 ≤ b ∧ b ≤ 1073741824) : CtI l yL_gcd wsL_gcd 0 0 D ad cA [.int (zI a), .int (zI b)] M (fun z M1 => z = (Int.gcd a b : Int) ∧ M1 = M) := by
  refine CtI.of (cc := cL_gcd) (maxL := 5) (ret := (some .int)) had (by decide) rfl (Nat.le_of_ble_eq_true rfl) ?_
  intro p e s m args below meth c X hm
  show VV p l e { frames := 0, cells := 0, slots := 0, locals := 0 } s m args below meth c 5 D ad cA (Afr ad s.heap.size) 0 0 (QI below args s D ad cA (fun z M1 => z = (Int.gcd a b : Int) ∧ M1 = M)) M 0 [(0, .int (zI a)), (1, .int (zI b))] []
  refine vv_iload_n X 0 rfl rfl dL_gcd_0 ?_
  refine vv_istore_n (lv' := [(2, .int (zI a)), (0, .int (zI a)), (1, .int (zI b))]) X rfl (by decide) rfl dL_gcd_1 ?_
  refine vv_iload_n X 2 rfl rfl dL_gcd_2 ?_
  refine vv_istore_n (lv' := [(3, .int (zI b)), (2, .int (zI a)), (0, .int (zI a)), (1, .int (zI b))]) X rfl (by decide) rfl dL_gcd_3 ?_
  have loop_4 : ∀ (n : Nat)  (a2 : Int) (a3 : Int), -1073741824 ≤ a2 ∧ a2 ≤ 1073741824 → -1073741824 ≤ a3 ∧ a3 ≤ 1073741824 → Int.gcd a2 a3 = Int.gcd a b → a3.natAbs < n → VV p l e { frames := 0, cells := 0, slots := 0, locals := 0 } s m args below meth c 5 D ad cA (Afr ad s.heap.size) 0 0 (QI below args s D ad cA (fun z M1 => z = (Int.gcd a b : Int) ∧ M1 = M)) M 4 [(2, .int (zI a2)), (3, .int (zI a3))] [] := by
    intro n
    induction n with
    | zero => intro a2 a3 h2 h3 hG hn; exact absurd hn (Nat.not_lt_zero _)
    | succ n ih_4 =>
      intro a2 a3 h2 h3 hG hn
      have hmd := fun q : a3 ≠ 0 => gcdTb (x := a2) q
      refine vv_iload_n X 1 rfl rfl dL_gcd_4 ?_
      refine vv_if_eq (tgt := 21) X (by omega) dL_gcd_5 (by decide) (fun c_5 => ?_) (fun c_5 => ?_)
      · skip
        refine vv_iload_n X 0 rfl rfl dL_gcd_21 ?_
        refine vv_if_ge (tgt := 30) X (by omega) dL_gcd_22 (by decide) (fun c_22 => ?_) (fun c_22 => ?_)
        · skip
          refine vv_iload_n X 0 rfl rfl dL_gcd_30 ?_
          exact vv_iret X hm (⟨by rw [← hG]; first | exact (gcdE (by omega)).1 (by omega) | exact (gcdE (by omega)).2 (by omega), rfl⟩) dL_gcd_31
        · skip
          refine vv_iload_n X 0 rfl rfl dL_gcd_25 ?_
          refine vv_ineg X dL_gcd_26 ?_
          refine vv_goto (tgt := 31) X (by decide) dL_gcd_27 ?_
          exact vv_iret X hm (⟨by rw [← hG]; first | exact (gcdE (by omega)).1 (by omega) | exact (gcdE (by omega)).2 (by omega), rfl⟩) dL_gcd_31
      · skip
        refine vv_iload_n X 0 rfl rfl dL_gcd_8 ?_
        refine vv_iload_n X 1 rfl rfl dL_gcd_9 ?_
        refine vv_irem X (by omega) (by omega) (by omega) dL_gcd_10 ?_
        refine vv_istore (lv' := [(4, .int (zI (Int.tmod a2 a3))), (2, .int (zI a2)), (3, .int (zI a3))]) X (by decide) rfl dL_gcd_11 ?_
        refine vv_iload_n X 2 rfl rfl dL_gcd_13 ?_
        refine vv_istore_n (lv' := [(2, .int (zI a3)), (4, .int (zI (Int.tmod a2 a3))), (3, .int (zI a3))]) X rfl (by decide) rfl dL_gcd_14 ?_
        refine vv_iload X 1 rfl dL_gcd_15 ?_
        refine vv_istore_n (lv' := [(3, .int (zI (Int.tmod a2 a3))), (2, .int (zI a3)), (4, .int (zI (Int.tmod a2 a3)))]) X rfl (by decide) rfl dL_gcd_17 ?_
        refine vv_goto (tgt := 4) X (by decide) dL_gcd_18 ?_
        refine vv_sub (lv' := [(2, .int (zI a3)), (3, .int (zI (Int.tmod a2 a3)))]) [1, 0] rfl ?_
        exact ih_4 a3 (Int.tmod a2 a3) h3 (by have := hmd (by omega); omega) (by rw [gcdT, hG]) (by have := hmd (by omega); omega)
  refine vv_sub (lv' := [(2, .int (zI a)), (3, .int (zI b))]) [1, 0] rfl ?_
  exact loop_4 _ a b ha hb rfl (Nat.lt_succ_self _)
set_option maxRecDepth 100000 in
set_option maxHeartbeats 4000000 in
theorem c_L_least (l : Launch) (D : va_G) {ad : Nat → Nat} (cA : Nat → ClassId) (had : adok ad) (M : Mem) (a b : Int) (ha : -1073741824 ≤ a ∧ a ≤ 1073741824) (hb : b ≤ 1073741824) (hb0 : 0 < b) : CtV l yL_least wsL_least 1 24 D ad cA [.int (zI a), .int (zI b), .ref (ad 109)] M (fun M1 => M1 = up2 (up2 M 109 0 (frA a b)) 109 1 (frB a b)) := by
  refine CtV.of (cc := cL_least) (maxL := 4) (ret := none) had (by decide) rfl (Nat.le_of_ble_eq_true rfl) ?_
  intro p e s m args below meth c X hm
  show VV p l e { frames := 1, cells := 0, slots := 0, locals := 24 } s m args below meth c 4 D ad cA (Afr ad s.heap.size) 0 0 (QV below args s D ad cA (fun M1 => M1 = up2 (up2 M 109 0 (frA a b)) 109 1 (frB a b))) M 0 [(0, .int (zI a)), (1, .int (zI b)), (2, .ref (ad 109))] []
  refine vv_iload_n X 0 rfl rfl dL_least_0 ?_
  refine vv_iload_n X 1 rfl rfl dL_least_1 ?_
  refine vv_callSI (As := [.int (zI a), .int (zI b)]) (st := []) X 2 (c_L_gcd l D cA had M a b (by omega) (by omega)) gL_least_L_gcd rfl (by decide +kernel) ⟨by decide, by decide⟩ (Nat.le_of_ble_eq_true rfl) ⟨by decide, by decide⟩ rfl rfl dL_least_2 (fun z2 Mc2 q_2 => ?_)
  obtain ⟨e_z2, g_z2⟩ := q_2
  have g_z2 := g_z2.symm
  subst g_z2
  have hg := fr_g (a := a) hb0
  have hgb : (Int.gcd a b : Int) ≤ b := Int.le_of_dvd hb0 (Int.gcd_dvd_right a b)
  rw [show z2 = (Int.gcd a b : Int) from e_z2]
  refine vv_istore_n (lv' := [(3, .int (zI (Int.gcd a b : Int))), (0, .int (zI a)), (1, .int (zI b)), (2, .ref (ad 109))]) X rfl (by decide) rfl dL_least_5 ?_
  refine vv_aload_n X 3 rfl rfl dL_least_6 ?_
  refine vv_iconst (n := 0) X dL_least_7 ?_
  refine vv_iload_n X 1 rfl rfl dL_least_8 ?_
  refine vv_iload_n X 0 rfl rfl dL_least_9 ?_
  refine vv_idiv X (by omega) (by omega) (by omega) dL_least_10 ?_
  refine vv_iast (ix := 0) X (by decide) sh_109 (by decide) (by omega) (rfl) dL_least_11 ?_
  refine vv_aload_n X 3 rfl rfl dL_least_12 ?_
  refine vv_iconst (n := 1) X dL_least_13 ?_
  refine vv_iload_n X 2 rfl rfl dL_least_14 ?_
  refine vv_iload_n X 0 rfl rfl dL_least_15 ?_
  refine vv_idiv X (by omega) (by omega) (by omega) dL_least_16 ?_
  refine vv_iast (ix := 1) X (by decide) sh_109 (by decide) (by omega) (rfl) dL_least_17 ?_
  exact vv_vret X hm (rfl) dL_least_18
set_option maxRecDepth 100000 in
set_option maxHeartbeats 4000000 in
theorem c_L_acting (l : Launch) (D : va_G) {ad : Nat → Nat} (cA : Nat → ClassId) (had : adok ad) (M : Mem) (x : Int) (hx : 0 ≤ x ∧ x ≤ 100) (hW : rWR M) : CtI l yL_acting wsL_acting 0 0 D ad cA [.int (zI x), .ref (ad 105), .ref (ad 106)] M (fun z M1 => z = mk (rL M) (rG M) x (M 105 1).toNat ∧ M1 = M) := by
  refine CtI.of (cc := cL_acting) (maxL := 5) (ret := (some .int)) had (by decide) rfl (Nat.le_of_ble_eq_true rfl) ?_
  intro p e s m args below meth c X hm
  show VV p l e { frames := 0, cells := 0, slots := 0, locals := 0 } s m args below meth c 5 D ad cA (Afr ad s.heap.size) 0 0 (QI below args s D ad cA (fun z M1 => z = mk (rL M) (rG M) x (M 105 1).toNat ∧ M1 = M)) M 0 [(0, .int (zI x)), (1, .ref (ad 105)), (2, .ref (ad 106))] []
  have h5 := hW.2.1
  have h50 := hW.1
  refine vv_iconst (n := 0) X dL_acting_0 ?_
  refine vv_istore_n (lv' := [(3, .int (zI 0)), (0, .int (zI x)), (1, .ref (ad 105)), (2, .ref (ad 106))]) X rfl (by decide) rfl dL_acting_1 ?_
  refine vv_iconst (n := 0) X dL_acting_2 ?_
  refine vv_istore (lv' := [(4, .int (zI 0)), (3, .int (zI 0)), (0, .int (zI x)), (1, .ref (ad 105)), (2, .ref (ad 106))]) X (by decide) rfl dL_acting_3 ?_
  have loop_5 : ∀ (n : Nat)  (k : Nat) (a3 : Int) (a4 : Int), a4 = (k : Int) → (k : Int) ≤ M 105 1 → a3 = mk (rL M) (rG M) x k → (M 105 1 - a4).toNat < n → VV p l e { frames := 0, cells := 0, slots := 0, locals := 0 } s m args below meth c 5 D ad cA (Afr ad s.heap.size) 0 0 (QI below args s D ad cA (fun z M1 => z = mk (rL M) (rG M) x (M 105 1).toNat ∧ M1 = M)) M 5 [(0, .int (zI x)), (1, .ref (ad 105)), (2, .ref (ad 106)), (3, .int (zI a3)), (4, .int (zI a4))] [] := by
    intro n
    induction n with
    | zero => intro k a3 a4 h3 hk h2 hn; exact absurd hn (Nat.not_lt_zero _)
    | succ n ih_5 =>
      intro k a3 a4 h3 hk h2 hn
      have h6 : a4.toNat = k := by omega
      have h7 : (4 * a4).toNat = 4 * k := by omega
      have h8 : (4 * a4 + 1).toNat = 4 * k + 1 := by omega
      have hm9 := mk_b (L := rL M) (G := rG M) (x := x) k
      refine vv_iload X 4 rfl dL_acting_5 ?_
      refine vv_aload_n X 1 rfl rfl dL_acting_7 ?_
      refine vv_iconst (n := 1) X dL_acting_8 ?_
      refine vv_iald (z := (M 105 1)) X (by decide) sh_105 (by decide) (by omega) (rfl) dL_acting_9 ?_
      refine vv_icmp_ge (tgt := 59) X (by omega) (by omega) dL_acting_10 (by decide) (fun c_10 => ?_) (fun c_10 => ?_)
      · skip
        refine vv_iload_n X 3 rfl rfl dL_acting_59 ?_
        exact vv_iret X hm (⟨by rw [h2, show (M 105 1).toNat = k by omega], rfl⟩) dL_acting_60
      · skip
        refine vv_iload_n X 3 rfl rfl dL_acting_13 ?_
        refine vv_iload_n X 0 rfl rfl dL_acting_14 ?_
        refine vv_aload_n X 2 rfl rfl dL_acting_15 ?_
        refine vv_iconst (n := 4) X dL_acting_16 ?_
        refine vv_iload X 4 rfl dL_acting_17 ?_
        refine vv_imul X dL_acting_19 ?_
        refine vv_iald (z := (M 106 (4 * k))) X (by decide) sh_106 (by decide) (by omega) (by first | (rw [h7]; done) | (rw [h7]; exact (rfl))) dL_acting_20 ?_
        refine vv_aload_n X 2 rfl rfl dL_acting_21 ?_
        refine vv_iconst (n := 4) X dL_acting_22 ?_
        refine vv_iload X 4 rfl dL_acting_23 ?_
        refine vv_imul X dL_acting_25 ?_
        refine vv_iconst (n := 1) X dL_acting_26 ?_
        refine vv_iadd X dL_acting_27 ?_
        refine vv_iald (z := (M 106 (4 * k + 1))) X (by decide) sh_106 (by decide) (by omega) (by first | (rw [h8]; done) | (rw [h8]; exact (rfl))) dL_acting_28 ?_
        have hw := hW.2.2 k (by omega)
        have hwL : 1 ≤ M 106 (4 * k) ∧ M 106 (4 * k) ≤ 99 := hw.1
        have hwG : 1 ≤ M 106 (4 * k + 1) ∧ M 106 (4 * k + 1) ≤ 99 := hw.2.1
        have b1 := mulB (a := x) (A := 100) (b := M 106 (4 * k) + M 106 (4 * k + 1)) (B := 198) hx (by omega)
        have e9 := Int.mul_add x (M 106 (4 * k)) (M 106 (4 * k + 1))
        have e8 := Int.sub_mul 100 x (M 106 (4 * k))
        refine vv_iadd X dL_acting_29 ?_
        refine vv_imul X dL_acting_30 ?_
        refine vv_bipush (n := 100) X (by decide) dL_acting_31 ?_
        refine vv_aload_n X 2 rfl rfl dL_acting_33 ?_
        refine vv_iconst (n := 4) X dL_acting_34 ?_
        refine vv_iload X 4 rfl dL_acting_35 ?_
        refine vv_imul X dL_acting_37 ?_
        refine vv_iald (z := (M 106 (4 * k))) X (by decide) sh_106 (by decide) (by omega) (by first | (rw [h7]; done) | (rw [h7]; exact (rfl))) dL_acting_38 ?_
        refine vv_imul X dL_acting_39 ?_
        refine vv_icmp_lt (tgt := 50) X (by omega) (by omega) dL_acting_40 (by decide) (fun c_40 => ?_) (fun c_40 => ?_)
        · skip
          have hac : (if ac (rL M) (rG M) x k then ((2 ^ k : Nat) : Int) else 0) = 0 := if_neg (fun q => by have q2 : (100 - x) * M 106 (4 * k) ≤ x * M 106 (4 * k + 1) := q; omega)
          refine vv_iconst (n := 0) X dL_acting_50 ?_
          refine vv_ior (a := a3 + 0) X (by first | (rw [h2]; exact or1 k (by omega) _ hm9) | (rw [h2, Int.add_zero]; exact or0 _)) dL_acting_51 ?_
          refine vv_istore_n (lv' := [(3, .int (zI (a3 + 0))), (0, .int (zI x)), (1, .ref (ad 105)), (2, .ref (ad 106)), (4, .int (zI a4))]) X rfl (by decide) rfl dL_acting_52 ?_
          refine vv_iinc (lv' := [(4, .int (zI (a4 + 1))), (3, .int (zI (a3 + 0))), (0, .int (zI x)), (1, .ref (ad 105)), (2, .ref (ad 106))]) X 4 rfl (by decide) rfl dL_acting_53 ?_
          refine vv_goto (tgt := 5) X (by decide) dL_acting_56 ?_
          refine vv_sub (lv' := [(0, .int (zI x)), (1, .ref (ad 105)), (2, .ref (ad 106)), (3, .int (zI (a3 + 0))), (4, .int (zI (a4 + 1)))]) [2, 3, 4, 1, 0] rfl ?_
          exact ih_5 (k + 1) (a3 + 0) (a4 + 1) (by omega) (by omega) (by
            have e : mk (rL M) (rG M) x (k + 1) = mk (rL M) (rG M) x k + (if ac (rL M) (rG M) x k then ((2 ^ k : Nat) : Int) else 0) := rfl
            rw [e, hac]
            omega) (by omega)
        · skip
          have hac : (if ac (rL M) (rG M) x k then ((2 ^ k : Nat) : Int) else 0) = ((2 ^ k : Nat) : Int) := if_pos (show (100 - x) * M 106 (4 * k) ≤ x * M 106 (4 * k + 1) by omega)
          refine vv_iconst (n := 1) X dL_acting_43 ?_
          refine vv_iload X 4 rfl dL_acting_44 ?_
          refine vv_ishl (a := ((2 ^ k : Nat) : Int)) X (by rw [h3]; exact shl1 k (by omega)) dL_acting_46 ?_
          refine vv_goto (tgt := 51) X (by decide) dL_acting_47 ?_
          refine vv_ior (a := a3 + ((2 ^ k : Nat) : Int)) X (by first | (rw [h2]; exact or1 k (by omega) _ hm9) | (rw [h2, Int.add_zero]; exact or0 _)) dL_acting_51 ?_
          refine vv_istore_n (lv' := [(3, .int (zI (a3 + ((2 ^ k : Nat) : Int)))), (0, .int (zI x)), (1, .ref (ad 105)), (2, .ref (ad 106)), (4, .int (zI a4))]) X rfl (by decide) rfl dL_acting_52 ?_
          refine vv_iinc (lv' := [(4, .int (zI (a4 + 1))), (3, .int (zI (a3 + ((2 ^ k : Nat) : Int)))), (0, .int (zI x)), (1, .ref (ad 105)), (2, .ref (ad 106))]) X 4 rfl (by decide) rfl dL_acting_53 ?_
          refine vv_goto (tgt := 5) X (by decide) dL_acting_56 ?_
          refine vv_sub (lv' := [(0, .int (zI x)), (1, .ref (ad 105)), (2, .ref (ad 106)), (3, .int (zI (a3 + ((2 ^ k : Nat) : Int)))), (4, .int (zI (a4 + 1)))]) [2, 3, 4, 1, 0] rfl ?_
          exact ih_5 (k + 1) (a3 + ((2 ^ k : Nat) : Int)) (a4 + 1) (by omega) (by omega) (by
            have e : mk (rL M) (rG M) x (k + 1) = mk (rL M) (rG M) x k + (if ac (rL M) (rG M) x k then ((2 ^ k : Nat) : Int) else 0) := rfl
            rw [e, hac]
            omega) (by omega)
  refine vv_sub (lv' := [(0, .int (zI x)), (1, .ref (ad 105)), (2, .ref (ad 106)), (3, .int (zI 0)), (4, .int (zI 0))]) [2, 3, 4, 1, 0] rfl ?_
  exact loop_5 _ 0 0 0 rfl (by omega) rfl (Nat.lt_succ_self _)
set_option maxRecDepth 100000 in
set_option maxHeartbeats 4000000 in
theorem c_L_value (l : Launch) (D : va_G) {ad : Nat → Nat} (cA : Nat → ClassId) (had : adok ad) (M : Mem) (x : Int) (hx : 0 ≤ x ∧ x ≤ 100) (hW : rWR M) : CtI l yL_value wsL_value 1 24 D ad cA [.int (zI x), .ref (ad 105), .ref (ad 106)] M (fun z M1 => z = rvl M x ∧ M1 = M) := by
  refine CtI.of (cc := cL_value) (maxL := 7) (ret := (some .int)) had (by decide) rfl (Nat.le_of_ble_eq_true rfl) ?_
  intro p e s m args below meth c X hm
  show VV p l e { frames := 1, cells := 0, slots := 0, locals := 24 } s m args below meth c 7 D ad cA (Afr ad s.heap.size) 0 0 (QI below args s D ad cA (fun z M1 => z = rvl M x ∧ M1 = M)) M 0 [(0, .int (zI x)), (1, .ref (ad 105)), (2, .ref (ad 106))] []
  have h5 := hW.2.1
  have h50 := hW.1
  refine vv_iload_n X 0 rfl rfl dL_value_0 ?_
  refine vv_aload_n X 1 rfl rfl dL_value_1 ?_
  refine vv_aload_n X 2 rfl rfl dL_value_2 ?_
  refine vv_callSI (As := [.int (zI x), .ref (ad 105), .ref (ad 106)]) (st := []) X 3 (c_L_acting l D cA had M x (by omega) (by assumption)) gL_value_L_acting rfl (by decide +kernel) ⟨by decide, by decide⟩ (Nat.le_of_ble_eq_true rfl) ⟨by decide, by decide⟩ rfl rfl dL_value_3 (fun z3 Mc3 q_3 => ?_)
  obtain ⟨e_z3, g_z3⟩ := q_3
  have g_z3 := g_z3.symm
  subst g_z3
  have hs1 := mk_b (L := rL M) (G := rG M) (x := x) (M 105 1).toNat
  have hs : 0 ≤ z3 ∧ z3 < 32 := by
    rw [e_z3]
    refine ⟨hs1.1, Int.lt_of_lt_of_le hs1.2 ?_⟩
    have : 2 ^ (M 105 1).toNat ≤ 2 ^ 5 := Nat.pow_le_pow_right (by decide) h5
    exact Int.ofNat_le.mpr this
  refine vv_istore_n (lv' := [(3, .int (zI z3)), (0, .int (zI x)), (1, .ref (ad 105)), (2, .ref (ad 106))]) X rfl (by decide) rfl dL_value_6 ?_
  refine vv_iconst (n := 0) X dL_value_7 ?_
  refine vv_istore (lv' := [(4, .int (zI 0)), (3, .int (zI z3)), (0, .int (zI x)), (1, .ref (ad 105)), (2, .ref (ad 106))]) X (by decide) rfl dL_value_8 ?_
  refine vv_iconst (n := 1) X dL_value_10 ?_
  refine vv_istore (lv' := [(5, .int (zI 1)), (4, .int (zI 0)), (3, .int (zI z3)), (0, .int (zI x)), (1, .ref (ad 105)), (2, .ref (ad 106))]) X (by decide) rfl dL_value_11 ?_
  refine vv_iconst (n := 0) X dL_value_13 ?_
  refine vv_istore (lv' := [(6, .int (zI 0)), (5, .int (zI 1)), (4, .int (zI 0)), (3, .int (zI z3)), (0, .int (zI x)), (1, .ref (ad 105)), (2, .ref (ad 106))]) X (by decide) rfl dL_value_14 ?_
  have loop_16 : ∀ (n : Nat)  (k : Nat) (a4 : Int) (a5 : Int) (a6 : Int), a6 = (k : Int) → (k : Int) ≤ M 105 1 → a4 = sm (fun r => if ac (rL M) (rG M) x r then rP M r else 0) k → a5 = (if alla (rL M) (rG M) x k = true then 1 else 0) → (M 105 1 - a6).toNat < n → VV p l e { frames := 1, cells := 0, slots := 0, locals := 24 } s m args below meth c 7 D ad cA (Afr ad s.heap.size) 0 0 (QI below args s D ad cA (fun z M1 => z = rvl M x ∧ M1 = M)) M 16 [(0, .int (zI x)), (1, .ref (ad 105)), (2, .ref (ad 106)), (3, .int (zI z3)), (4, .int (zI a4)), (5, .int (zI a5)), (6, .int (zI a6))] [] := by
    intro n
    induction n with
    | zero => intro k a4 a5 a6 g6 hk g4 g5 hn; exact absurd hn (Nat.not_lt_zero _)
    | succ n ih_16 =>
      intro k a4 a5 a6 g6 hk g4 g5 hn
      have h6 : a6.toNat = k := by omega
      have h7 : (4 * a6 + 2).toNat = 4 * k + 2 := by omega
      have ha5 : a5 = 0 ∨ a5 = 1 := by rw [g5]; split <;> omega
      have hbit : (k : Int) < M 105 1 → z3 / ((2 ^ k : Nat) : Int) % 2 = if ac (rL M) (rG M) x k then 1 else 0 := fun q => by rw [e_z3]; exact mk_bit (by omega)
      have hq0 : 0 ≤ z3 / ((2 ^ k : Nat) : Int) ∧ z3 / ((2 ^ k : Nat) : Int) < 32 := ⟨Int.ediv_nonneg hs.1 (Int.natCast_nonneg _), Int.lt_of_le_of_lt (Int.ediv_le_self _ hs.1) hs.2⟩
      refine vv_iload X 6 rfl dL_value_16 ?_
      refine vv_aload_n X 1 rfl rfl dL_value_18 ?_
      refine vv_iconst (n := 1) X dL_value_19 ?_
      refine vv_iald (z := (M 105 1)) X (by decide) sh_105 (by decide) (by omega) (rfl) dL_value_20 ?_
      refine vv_icmp_ge (tgt := 72) X (by omega) (by omega) dL_value_21 (by decide) (fun c_21 => ?_) (fun c_21 => ?_)
      · skip
        have ek : (M 105 1).toNat = k := by omega
        refine vv_iconst (n := 0) X dL_value_72 ?_
        refine vv_istore (lv' := [(6, .int (zI 0)), (0, .int (zI x)), (1, .ref (ad 105)), (2, .ref (ad 106)), (3, .int (zI z3)), (4, .int (zI a4)), (5, .int (zI a5))]) X (by decide) rfl dL_value_73 ?_
        have loop_75 : ∀ (n : Nat)  (j : Nat) (b4 : Int) (b6 : Int), b6 = (j : Int) → (j : Int) ≤ M 105 1 → b4 = a4 + sm (rB M) j → (j = 0 ∨ a5 ≠ 0) → (M 105 1 - b6).toNat < n → VV p l e { frames := 1, cells := 0, slots := 0, locals := 24 } s m args below meth c 7 D ad cA (Afr ad s.heap.size) 0 0 (QI below args s D ad cA (fun z M1 => z = rvl M x ∧ M1 = M)) M 75 [(0, .int (zI x)), (1, .ref (ad 105)), (2, .ref (ad 106)), (4, .int (zI b4)), (5, .int (zI a5)), (6, .int (zI b6))] [] := by
          intro n
          induction n with
          | zero => intro j b4 b6 k6 hj k4 k5 hn; exact absurd hn (Nat.not_lt_zero _)
          | succ n ih_75 =>
            intro j b4 b6 k6 hj k4 k5 hn
            have h9 : (4 * b6 + 3).toNat = 4 * j + 3 := by omega
            refine vv_iload X 5 rfl dL_value_75 ?_
            refine vv_aload_n X 1 rfl rfl dL_value_77 ?_
            refine vv_iconst (n := 1) X dL_value_78 ?_
            refine vv_iald (z := (M 105 1)) X (by decide) sh_105 (by decide) (by omega) (rfl) dL_value_79 ?_
            refine vv_icmp_ge (tgt := 107) X (by omega) (by omega) dL_value_80 (by decide) (fun c_80 => ?_) (fun c_80 => ?_)
            · skip
              refine vv_iload X 3 rfl dL_value_107 ?_
              exact vv_iret X hm (⟨by
                show b4 = sm (fun r => if ac (rL M) (rG M) x r then rP M r else 0) (M 105 1).toNat + (if alla (rL M) (rG M) x (M 105 1).toNat = true then sm (rB M) (M 105 1).toNat else 0)
                rw [ek, k4, g4]
                by_cases hall : alla (rL M) (rG M) x k = true
                · rw [if_pos hall] at g5 ⊢
                  rw [show j = k by omega]
                · rw [if_neg hall] at g5 ⊢
                  rw [show j = 0 by omega]
                  rfl, rfl⟩) dL_value_109
            · skip
              refine vv_iload X 4 rfl dL_value_83 ?_
              refine vv_if_eq (tgt := 107) X (by omega) dL_value_85 (by decide) (fun c_85 => ?_) (fun c_85 => ?_)
              · skip
                refine vv_iload X 3 rfl dL_value_107 ?_
                exact vv_iret X hm (⟨by
                  show b4 = sm (fun r => if ac (rL M) (rG M) x r then rP M r else 0) (M 105 1).toNat + (if alla (rL M) (rG M) x (M 105 1).toNat = true then sm (rB M) (M 105 1).toNat else 0)
                  rw [ek, k4, g4]
                  by_cases hall : alla (rL M) (rG M) x k = true
                  · rw [if_pos hall] at g5 ⊢
                    rw [show j = k by omega]
                  · rw [if_neg hall] at g5 ⊢
                    rw [show j = 0 by omega]
                    rfl, rfl⟩) dL_value_109
              · skip
                refine vv_iload X 3 rfl dL_value_88 ?_
                refine vv_aload_n X 2 rfl rfl dL_value_90 ?_
                refine vv_iconst (n := 4) X dL_value_91 ?_
                refine vv_iload X 5 rfl dL_value_92 ?_
                refine vv_imul X dL_value_94 ?_
                refine vv_iconst (n := 3) X dL_value_95 ?_
                refine vv_iadd X dL_value_96 ?_
                refine vv_iald (z := (M 106 (4 * j + 3))) X (by decide) sh_106 (by decide) (by omega) (by first | (rw [h9]; done) | (rw [h9]; exact (rfl))) dL_value_97 ?_
                refine vv_iadd X dL_value_98 ?_
                refine vv_istore (lv' := [(4, .int (zI (b4 + (M 106 (4 * j + 3))))), (0, .int (zI x)), (1, .ref (ad 105)), (2, .ref (ad 106)), (5, .int (zI a5)), (6, .int (zI b6))]) X (by decide) rfl dL_value_99 ?_
                refine vv_iinc (lv' := [(6, .int (zI (b6 + 1))), (4, .int (zI (b4 + (M 106 (4 * j + 3))))), (0, .int (zI x)), (1, .ref (ad 105)), (2, .ref (ad 106)), (5, .int (zI a5))]) X 5 rfl (by decide) rfl dL_value_101 ?_
                refine vv_goto (tgt := 75) X (by decide) dL_value_104 ?_
                refine vv_sub (lv' := [(0, .int (zI x)), (1, .ref (ad 105)), (2, .ref (ad 106)), (4, .int (zI (b4 + (M 106 (4 * j + 3))))), (5, .int (zI a5)), (6, .int (zI (b6 + 1)))]) [2, 3, 4, 1, 5, 0] rfl ?_
                exact ih_75 (j + 1) (b4 + (M 106 (4 * j + 3))) (b6 + 1) (by omega) (by omega) (by rw [k4, Int.add_assoc]; rfl) (Or.inr (by omega)) (by omega)
        refine vv_sub (lv' := [(0, .int (zI x)), (1, .ref (ad 105)), (2, .ref (ad 106)), (4, .int (zI a4)), (5, .int (zI a5)), (6, .int (zI 0))]) [1, 2, 3, 5, 6, 0] rfl ?_
        exact loop_75 _ 0 a4 0 rfl (by omega) (by show a4 = a4 + 0; omega) (Or.inl rfl) (Nat.lt_succ_self _)
      · skip
        have hbk := hbit (by omega)
        have hpay : (z3 / ((2 ^ k : Nat) : Int) % 2) * M 106 (4 * k + 2) = if ac (rL M) (rG M) x k then rP M k else 0 := by
          rw [hbk]
          split
          · exact Int.one_mul _
          · exact Int.zero_mul _
        have hal : alla (rL M) (rG M) x (k + 1) = (alla (rL M) (rG M) x k && decide (ac (rL M) (rG M) x k)) := rfl
        refine vv_iload X 4 rfl dL_value_24 ?_
        refine vv_iload_n X 3 rfl rfl dL_value_26 ?_
        refine vv_iload X 6 rfl dL_value_27 ?_
        refine vv_ishr (a := (z3 / ((2 ^ k : Nat) : Int))) X (by rw [g6]; exact bit1 z3 hs k (by omega)) dL_value_29 ?_
        refine vv_iconst (n := 1) X dL_value_30 ?_
        refine vv_iand (a := (z3 / ((2 ^ k : Nat) : Int) % 2)) X (bit2 _ hq0) dL_value_31 ?_
        refine vv_aload_n X 2 rfl rfl dL_value_32 ?_
        refine vv_iconst (n := 4) X dL_value_33 ?_
        refine vv_iload X 6 rfl dL_value_34 ?_
        refine vv_imul X dL_value_36 ?_
        refine vv_iconst (n := 2) X dL_value_37 ?_
        refine vv_iadd X dL_value_38 ?_
        refine vv_iald (z := (M 106 (4 * k + 2))) X (by decide) sh_106 (by decide) (by omega) (by first | (rw [h7]; done) | (rw [h7]; exact (rfl))) dL_value_39 ?_
        refine vv_imul X dL_value_40 ?_
        refine vv_iadd X dL_value_41 ?_
        refine vv_istore (lv' := [(4, .int (zI (a4 + ((z3 / ((2 ^ k : Nat) : Int) % 2) * (M 106 (4 * k + 2)))))), (0, .int (zI x)), (1, .ref (ad 105)), (2, .ref (ad 106)), (3, .int (zI z3)), (5, .int (zI a5)), (6, .int (zI a6))]) X (by decide) rfl dL_value_42 ?_
        refine vv_iload X 5 rfl dL_value_44 ?_
        refine vv_if_eq (tgt := 63) X (by omega) dL_value_46 (by decide) (fun c_46 => ?_) (fun c_46 => ?_)
        · skip
          have hn : (if alla (rL M) (rG M) x (k + 1) = true then (1 : Int) else 0) = 0 := if_neg (fun q => by
            rw [hal] at q
            have q2 := (Bool.and_eq_true _ _ ▸ q : alla (rL M) (rG M) x k = true ∧ decide (ac (rL M) (rG M) x k) = true).1
            rw [if_pos q2] at g5
            omega)
          refine vv_iconst (n := 0) X dL_value_63 ?_
          refine vv_istore (lv' := [(5, .int (zI 0)), (4, .int (zI (a4 + ((z3 / ((2 ^ k : Nat) : Int) % 2) * (M 106 (4 * k + 2)))))), (0, .int (zI x)), (1, .ref (ad 105)), (2, .ref (ad 106)), (3, .int (zI z3)), (6, .int (zI a6))]) X (by decide) rfl dL_value_64 ?_
          refine vv_iinc (lv' := [(6, .int (zI (a6 + 1))), (5, .int (zI 0)), (4, .int (zI (a4 + ((z3 / ((2 ^ k : Nat) : Int) % 2) * (M 106 (4 * k + 2)))))), (0, .int (zI x)), (1, .ref (ad 105)), (2, .ref (ad 106)), (3, .int (zI z3))]) X 6 rfl (by decide) rfl dL_value_66 ?_
          refine vv_goto (tgt := 16) X (by decide) dL_value_69 ?_
          refine vv_sub (lv' := [(0, .int (zI x)), (1, .ref (ad 105)), (2, .ref (ad 106)), (3, .int (zI z3)), (4, .int (zI (a4 + ((z3 / ((2 ^ k : Nat) : Int) % 2) * (M 106 (4 * k + 2)))))), (5, .int (zI 0)), (6, .int (zI (a6 + 1)))]) [3, 4, 5, 6, 2, 1, 0] rfl ?_
          exact ih_16 (k + 1) (a4 + ((z3 / ((2 ^ k : Nat) : Int) % 2) * (M 106 (4 * k + 2)))) 0 (a6 + 1) (by omega) (by omega) (by rw [hpay, g4]; rfl) (by rw [hn]) (by omega)
        · skip
          refine vv_iload_n X 4 rfl rfl dL_value_49 ?_
          refine vv_iload X 6 rfl dL_value_50 ?_
          refine vv_ishr (a := (z3 / ((2 ^ k : Nat) : Int))) X (by rw [g6]; exact bit1 z3 hs k (by omega)) dL_value_52 ?_
          refine vv_iconst (n := 1) X dL_value_53 ?_
          refine vv_iand (a := (z3 / ((2 ^ k : Nat) : Int) % 2)) X (bit2 _ hq0) dL_value_54 ?_
          refine vv_iconst (n := 1) X dL_value_55 ?_
          refine vv_icmp_ne (tgt := 63) X (by omega) (by omega) dL_value_56 (by decide) (fun c_56 => ?_) (fun c_56 => ?_)
          · skip
            have hna : ¬ ac (rL M) (rG M) x k := fun q => by rw [if_pos q] at hbk; omega
            have hn : (if alla (rL M) (rG M) x (k + 1) = true then (1 : Int) else 0) = 0 := if_neg (fun q => by
              rw [hal] at q
              exact hna (of_decide_eq_true (Bool.and_eq_true _ _ ▸ q : alla (rL M) (rG M) x k = true ∧ decide (ac (rL M) (rG M) x k) = true).2))
            refine vv_iconst (n := 0) X dL_value_63 ?_
            refine vv_istore (lv' := [(5, .int (zI 0)), (4, .int (zI (a4 + ((z3 / ((2 ^ k : Nat) : Int) % 2) * (M 106 (4 * k + 2)))))), (0, .int (zI x)), (1, .ref (ad 105)), (2, .ref (ad 106)), (3, .int (zI z3)), (6, .int (zI a6))]) X (by decide) rfl dL_value_64 ?_
            refine vv_iinc (lv' := [(6, .int (zI (a6 + 1))), (5, .int (zI 0)), (4, .int (zI (a4 + ((z3 / ((2 ^ k : Nat) : Int) % 2) * (M 106 (4 * k + 2)))))), (0, .int (zI x)), (1, .ref (ad 105)), (2, .ref (ad 106)), (3, .int (zI z3))]) X 6 rfl (by decide) rfl dL_value_66 ?_
            refine vv_goto (tgt := 16) X (by decide) dL_value_69 ?_
            refine vv_sub (lv' := [(0, .int (zI x)), (1, .ref (ad 105)), (2, .ref (ad 106)), (3, .int (zI z3)), (4, .int (zI (a4 + ((z3 / ((2 ^ k : Nat) : Int) % 2) * (M 106 (4 * k + 2)))))), (5, .int (zI 0)), (6, .int (zI (a6 + 1)))]) [3, 4, 5, 6, 2, 1, 0] rfl ?_
            exact ih_16 (k + 1) (a4 + ((z3 / ((2 ^ k : Nat) : Int) % 2) * (M 106 (4 * k + 2)))) 0 (a6 + 1) (by omega) (by omega) (by rw [hpay, g4]; rfl) (by rw [hn]) (by omega)
          · skip
            have hya : ac (rL M) (rG M) x k := Classical.byContradiction fun q => by rw [if_neg q] at hbk; omega
            have hyl : alla (rL M) (rG M) x k = true := Classical.byContradiction fun q => by rw [if_neg q] at g5; omega
            have hn : (if alla (rL M) (rG M) x (k + 1) = true then (1 : Int) else 0) = 1 := if_pos (by rw [hal, hyl, decide_eq_true hya]; rfl)
            refine vv_iconst (n := 1) X dL_value_59 ?_
            refine vv_goto (tgt := 64) X (by decide) dL_value_60 ?_
            refine vv_istore (lv' := [(5, .int (zI 1)), (4, .int (zI (a4 + ((z3 / ((2 ^ k : Nat) : Int) % 2) * (M 106 (4 * k + 2)))))), (0, .int (zI x)), (1, .ref (ad 105)), (2, .ref (ad 106)), (3, .int (zI z3)), (6, .int (zI a6))]) X (by decide) rfl dL_value_64 ?_
            refine vv_iinc (lv' := [(6, .int (zI (a6 + 1))), (5, .int (zI 1)), (4, .int (zI (a4 + ((z3 / ((2 ^ k : Nat) : Int) % 2) * (M 106 (4 * k + 2)))))), (0, .int (zI x)), (1, .ref (ad 105)), (2, .ref (ad 106)), (3, .int (zI z3))]) X 6 rfl (by decide) rfl dL_value_66 ?_
            refine vv_goto (tgt := 16) X (by decide) dL_value_69 ?_
            refine vv_sub (lv' := [(0, .int (zI x)), (1, .ref (ad 105)), (2, .ref (ad 106)), (3, .int (zI z3)), (4, .int (zI (a4 + ((z3 / ((2 ^ k : Nat) : Int) % 2) * (M 106 (4 * k + 2)))))), (5, .int (zI 1)), (6, .int (zI (a6 + 1)))]) [3, 4, 5, 6, 2, 1, 0] rfl ?_
            exact ih_16 (k + 1) (a4 + ((z3 / ((2 ^ k : Nat) : Int) % 2) * (M 106 (4 * k + 2)))) 1 (a6 + 1) (by omega) (by omega) (by rw [hpay, g4]; rfl) (by rw [hn]) (by omega)
  refine vv_sub (lv' := [(0, .int (zI x)), (1, .ref (ad 105)), (2, .ref (ad 106)), (3, .int (zI z3)), (4, .int (zI 0)), (5, .int (zI 1)), (6, .int (zI 0))]) [4, 5, 6, 3, 2, 1, 0] rfl ?_
  exact loop_16 _ 0 0 1 0 rfl (by omega) rfl rfl (Nat.lt_succ_self _)
