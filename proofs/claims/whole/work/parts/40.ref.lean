set_option maxRecDepth 100000 in
set_option maxHeartbeats 4000000 in
theorem c_X9_within (l : Launch) (D : va_G) {ad : Nat → Nat} (cA : Nat → ClassId) (had : adok ad) (M : Mem) (r a b : Int) (hr : -2147483648 ≤ r ∧ r ≤ 2147483647) (ha : -2147483648 ≤ a ∧ a ≤ 2147483647) (hb : -2147483648 ≤ b ∧ b ≤ 2147483647) : CtI l yX9_within wsX9_within 0 0 D ad cA [.int (zI r), .int (zI a), .int (zI b)] M (fun z M1 => z = (if a ≤ r ∧ r ≤ b then 1 else 0) ∧ M1 = M) := by
  refine CtI.of (cc := cX9_within) (maxL := 3) (ret := (some .boolean)) had (by decide) rfl (Nat.le_of_ble_eq_true rfl) ?_
  intro p e s m args below meth c X hm
  show VV p l e { frames := 0, cells := 0, slots := 0, locals := 0 } s m args below meth c 3 D ad cA (Afr ad s.heap.size) 0 0 (QI below args s D ad cA (fun z M1 => z = (if a ≤ r ∧ r ≤ b then 1 else 0) ∧ M1 = M)) M 0 [(0, .int (zI r)), (1, .int (zI a)), (2, .int (zI b))] []
  refine vv_iload_n X 0 rfl rfl dX9_within_0 ?_
  refine vv_iload_n X 1 rfl rfl dX9_within_1 ?_
  refine vv_icmp_lt (tgt := 14) X (by omega) (by omega) dX9_within_2 (by decide) (fun c_2 => ?_) (fun c_2 => ?_)
  · skip
    refine vv_iconst (n := 0) X dX9_within_14 ?_
    exact vv_zret X hm (by omega) (⟨by first | rw [if_pos (by omega)] | rw [if_neg (by omega)], rfl⟩) dX9_within_15
  · skip
    refine vv_iload_n X 0 rfl rfl dX9_within_5 ?_
    refine vv_iload_n X 2 rfl rfl dX9_within_6 ?_
    refine vv_icmp_gt (tgt := 14) X (by omega) (by omega) dX9_within_7 (by decide) (fun c_7 => ?_) (fun c_7 => ?_)
    · skip
      refine vv_iconst (n := 0) X dX9_within_14 ?_
      exact vv_zret X hm (by omega) (⟨by first | rw [if_pos (by omega)] | rw [if_neg (by omega)], rfl⟩) dX9_within_15
    · skip
      refine vv_iconst (n := 1) X dX9_within_10 ?_
      refine vv_goto (tgt := 15) X (by decide) dX9_within_11 ?_
      exact vv_zret X hm (by omega) (⟨by first | rw [if_pos (by omega)] | rw [if_neg (by omega)], rfl⟩) dX9_within_15
set_option maxRecDepth 100000 in
set_option maxHeartbeats 4000000 in
theorem c_X9_isShare (l : Launch) (D : va_G) {ad : Nat → Nat} (cA : Nat → ClassId) (had : adok ad) (M : Mem) (r : Int) (hr : -2147483648 ≤ r ∧ r ≤ 2147483647) : CtI l yX9_isShare wsX9_isShare 1 22 D ad cA [.int (zI r)] M (fun z M1 => z = (if 0 ≤ r ∧ r ≤ 100 then 1 else 0) ∧ M1 = M) := by
  refine CtI.of (cc := cX9_isShare) (maxL := 1) (ret := (some .boolean)) had (by decide) rfl (Nat.le_of_ble_eq_true rfl) ?_
  intro p e s m args below meth c X hm
  show VV p l e { frames := 1, cells := 0, slots := 0, locals := 22 } s m args below meth c 1 D ad cA (Afr ad s.heap.size) 0 0 (QI below args s D ad cA (fun z M1 => z = (if 0 ≤ r ∧ r ≤ 100 then 1 else 0) ∧ M1 = M)) M 0 [(0, .int (zI r))] []
  refine vv_iload_n X 0 rfl rfl dX9_isShare_0 ?_
  refine vv_iconst (n := 0) X dX9_isShare_1 ?_
  refine vv_bipush (n := 100) X (by decide) dX9_isShare_2 ?_
  refine vv_callSI (As := [.int (zI r), .int (zI 0), .int (zI 100)]) (st := []) X 3 (c_X9_within l D cA had M r 0 100 (by omega) (by omega) (by omega)) gX9_isShare_X9_within rfl (by decide +kernel) ⟨by decide, by decide⟩ (Nat.le_of_ble_eq_true rfl) ⟨by decide, by decide⟩ rfl rfl dX9_isShare_4 (fun z4 Mc4 q_4 => ?_)
  obtain ⟨e_z4, g_z4⟩ := q_4
  have g_z4 := g_z4.symm
  subst g_z4
  exact vv_zret X hm (by rw [e_z4]; split <;> omega) (⟨e_z4, rfl⟩) dX9_isShare_7
set_option maxRecDepth 100000 in
set_option maxHeartbeats 4000000 in
theorem c_X9_moves_106_107 (l : Launch) (D : va_G) {ad : Nat → Nat} (cA : Nat → ClassId) (had : adok ad) (M : Mem) (f g : Int) (hf : 0 ≤ f ∧ f + 35 ≤ 35) (hg : 0 ≤ g ∧ g + 35 ≤ 210) : CtV l yX9_moves wsX9_moves 0 0 D ad cA [.ref (ad 106), .int (zI f), .ref (ad 107), .int (zI g)] M (fun M1 => M1 = stc M 107 (fun j => if g ≤ (j : Int) ∧ (j : Int) < g + 35 then M 106 (f + ((j : Int) - g)).toNat else M 107 j)) := by
  refine CtV.of (cc := cX9_moves) (maxL := 5) (ret := none) had (by decide) rfl (Nat.le_of_ble_eq_true rfl) ?_
  intro p e s m args below meth c X hm
  show VV p l e { frames := 0, cells := 0, slots := 0, locals := 0 } s m args below meth c 5 D ad cA (Afr ad s.heap.size) 0 0 (QV below args s D ad cA (fun M1 => M1 = stc M 107 (fun j => if g ≤ (j : Int) ∧ (j : Int) < g + 35 then M 106 (f + ((j : Int) - g)).toNat else M 107 j))) M 0 [(0, .ref (ad 106)), (1, .int (zI f)), (2, .ref (ad 107)), (3, .int (zI g))] []
  refine vv_iconst (n := 0) X dX9_moves_0 ?_
  refine vv_istore (lv' := [(4, .int (zI 0)), (0, .ref (ad 106)), (1, .int (zI f)), (2, .ref (ad 107)), (3, .int (zI g))]) X (by decide) rfl dX9_moves_1 ?_
  have loop_3 : ∀ (n : Nat) (M_3 : Mem) (a4 : Int), 0 ≤ a4 ∧ a4 ≤ 35 → M_3 = stc M 107 (fun j => if g ≤ (j : Int) ∧ (j : Int) < g + a4 then M 106 (f + ((j : Int) - g)).toNat else M 107 j) → (35 - a4).toNat < n → VV p l e { frames := 0, cells := 0, slots := 0, locals := 0 } s m args below meth c 5 D ad cA (Afr ad s.heap.size) 0 0 (QV below args s D ad cA (fun M1 => M1 = stc M 107 (fun j => if g ≤ (j : Int) ∧ (j : Int) < g + 35 then M 106 (f + ((j : Int) - g)).toNat else M 107 j))) M_3 3 [(0, .ref (ad 106)), (1, .int (zI f)), (2, .ref (ad 107)), (3, .int (zI g)), (4, .int (zI a4))] [] := by
    intro n
    induction n with
    | zero => intro M_3 a4 h4 hM hn; exact absurd hn (Nat.not_lt_zero _)
    | succ n ih_3 =>
      intro M_3 a4 h4 hM hn
      have e_3_106 : M_3 106 = M 106 := by rw [hM]; exact stc_n _ _ (by decide)
      refine vv_iload X 4 rfl dX9_moves_3 ?_
      refine vv_bipush (n := 35) X (by decide) dX9_moves_5 ?_
      refine vv_icmp_ge (tgt := 28) X (by omega) (by omega) dX9_moves_7 (by decide) (fun c_7 => ?_) (fun c_7 => ?_)
      · skip
        exact vv_vret X hm (by rw [hM, show a4 = 35 by omega]) dX9_moves_28
      · skip
        refine vv_aload_n X 2 rfl rfl dX9_moves_10 ?_
        refine vv_iload_n X 3 rfl rfl dX9_moves_11 ?_
        refine vv_iload X 4 rfl dX9_moves_12 ?_
        refine vv_iadd X dX9_moves_14 ?_
        refine vv_aload_n X 0 rfl rfl dX9_moves_15 ?_
        refine vv_iload_n X 1 rfl rfl dX9_moves_16 ?_
        refine vv_iload X 4 rfl dX9_moves_17 ?_
        refine vv_iadd X dX9_moves_19 ?_
        refine vv_iald (z := (M 106 (Int.toNat (f + a4)))) X (by decide) sh_106 (by decide) (by omega) (show M_3 106 (Int.toNat (f + a4)) = M 106 (Int.toNat (f + a4)) from by rw [e_3_106]) dX9_moves_20 ?_
        refine vv_iast (ix := (Int.toNat (g + a4))) X (by decide) sh_107 (by decide) (by omega) (rfl) dX9_moves_21 ?_
        refine vv_iinc (lv' := [(4, .int (zI (a4 + 1))), (0, .ref (ad 106)), (1, .int (zI f)), (2, .ref (ad 107)), (3, .int (zI g))]) X 4 rfl (by decide) rfl dX9_moves_22 ?_
        refine vv_goto (tgt := 3) X (by decide) dX9_moves_25 ?_
        refine vv_sub (lv' := [(0, .ref (ad 106)), (1, .int (zI f)), (2, .ref (ad 107)), (3, .int (zI g)), (4, .int (zI (a4 + 1)))]) [1, 2, 3, 4, 0] rfl ?_
        exact ih_3 (up2 M_3 107 (Int.toNat (g + a4)) (M 106 (Int.toNat (f + a4)))) (a4 + 1) (by omega) (by
          rw [hM, up2_stc]
          refine stc_eq fun j => ?_
          unfold uz
          by_cases q : j = (g + a4).toNat
          · rw [if_pos q, if_pos (by omega)]
            congr 1
            omega
          · rw [if_neg q]
            by_cases q2 : g ≤ (j : Int) ∧ (j : Int) < g + a4
            · rw [if_pos (by omega)]
              exact if_pos q2
            · rw [if_neg (by omega)]
              exact if_neg q2) (by omega)
  refine vv_sub (lv' := [(0, .ref (ad 106)), (1, .int (zI f)), (2, .ref (ad 107)), (3, .int (zI g)), (4, .int (zI 0))]) [1, 2, 3, 4, 0] rfl ?_
  exact loop_3 _ M 0 (by omega) (by rw [stc_eq (g := M 107) (fun j => if_neg (by omega)), stc_id]) (Nat.lt_succ_self _)
set_option maxRecDepth 100000 in
set_option maxHeartbeats 4000000 in
theorem c_X9_moves_107_106 (l : Launch) (D : va_G) {ad : Nat → Nat} (cA : Nat → ClassId) (had : adok ad) (M : Mem) (f g : Int) (hf : 0 ≤ f ∧ f + 35 ≤ 210) (hg : 0 ≤ g ∧ g + 35 ≤ 35) : CtV l yX9_moves wsX9_moves 0 0 D ad cA [.ref (ad 107), .int (zI f), .ref (ad 106), .int (zI g)] M (fun M1 => M1 = stc M 106 (fun j => if g ≤ (j : Int) ∧ (j : Int) < g + 35 then M 107 (f + ((j : Int) - g)).toNat else M 106 j)) := by
  refine CtV.of (cc := cX9_moves) (maxL := 5) (ret := none) had (by decide) rfl (Nat.le_of_ble_eq_true rfl) ?_
  intro p e s m args below meth c X hm
  show VV p l e { frames := 0, cells := 0, slots := 0, locals := 0 } s m args below meth c 5 D ad cA (Afr ad s.heap.size) 0 0 (QV below args s D ad cA (fun M1 => M1 = stc M 106 (fun j => if g ≤ (j : Int) ∧ (j : Int) < g + 35 then M 107 (f + ((j : Int) - g)).toNat else M 106 j))) M 0 [(0, .ref (ad 107)), (1, .int (zI f)), (2, .ref (ad 106)), (3, .int (zI g))] []
  refine vv_iconst (n := 0) X dX9_moves_0 ?_
  refine vv_istore (lv' := [(4, .int (zI 0)), (0, .ref (ad 107)), (1, .int (zI f)), (2, .ref (ad 106)), (3, .int (zI g))]) X (by decide) rfl dX9_moves_1 ?_
  have loop_3 : ∀ (n : Nat) (M_3 : Mem) (a4 : Int), 0 ≤ a4 ∧ a4 ≤ 35 → M_3 = stc M 106 (fun j => if g ≤ (j : Int) ∧ (j : Int) < g + a4 then M 107 (f + ((j : Int) - g)).toNat else M 106 j) → (35 - a4).toNat < n → VV p l e { frames := 0, cells := 0, slots := 0, locals := 0 } s m args below meth c 5 D ad cA (Afr ad s.heap.size) 0 0 (QV below args s D ad cA (fun M1 => M1 = stc M 106 (fun j => if g ≤ (j : Int) ∧ (j : Int) < g + 35 then M 107 (f + ((j : Int) - g)).toNat else M 106 j))) M_3 3 [(0, .ref (ad 107)), (1, .int (zI f)), (2, .ref (ad 106)), (3, .int (zI g)), (4, .int (zI a4))] [] := by
    intro n
    induction n with
    | zero => intro M_3 a4 h4 hM hn; exact absurd hn (Nat.not_lt_zero _)
    | succ n ih_3 =>
      intro M_3 a4 h4 hM hn
      have e_3_107 : M_3 107 = M 107 := by rw [hM]; exact stc_n _ _ (by decide)
      refine vv_iload X 4 rfl dX9_moves_3 ?_
      refine vv_bipush (n := 35) X (by decide) dX9_moves_5 ?_
      refine vv_icmp_ge (tgt := 28) X (by omega) (by omega) dX9_moves_7 (by decide) (fun c_7 => ?_) (fun c_7 => ?_)
      · skip
        exact vv_vret X hm (by rw [hM, show a4 = 35 by omega]) dX9_moves_28
      · skip
        refine vv_aload_n X 2 rfl rfl dX9_moves_10 ?_
        refine vv_iload_n X 3 rfl rfl dX9_moves_11 ?_
        refine vv_iload X 4 rfl dX9_moves_12 ?_
        refine vv_iadd X dX9_moves_14 ?_
        refine vv_aload_n X 0 rfl rfl dX9_moves_15 ?_
        refine vv_iload_n X 1 rfl rfl dX9_moves_16 ?_
        refine vv_iload X 4 rfl dX9_moves_17 ?_
        refine vv_iadd X dX9_moves_19 ?_
        refine vv_iald (z := (M 107 (Int.toNat (f + a4)))) X (by decide) sh_107 (by decide) (by omega) (show M_3 107 (Int.toNat (f + a4)) = M 107 (Int.toNat (f + a4)) from by rw [e_3_107]) dX9_moves_20 ?_
        refine vv_iast (ix := (Int.toNat (g + a4))) X (by decide) sh_106 (by decide) (by omega) (rfl) dX9_moves_21 ?_
        refine vv_iinc (lv' := [(4, .int (zI (a4 + 1))), (0, .ref (ad 107)), (1, .int (zI f)), (2, .ref (ad 106)), (3, .int (zI g))]) X 4 rfl (by decide) rfl dX9_moves_22 ?_
        refine vv_goto (tgt := 3) X (by decide) dX9_moves_25 ?_
        refine vv_sub (lv' := [(0, .ref (ad 107)), (1, .int (zI f)), (2, .ref (ad 106)), (3, .int (zI g)), (4, .int (zI (a4 + 1)))]) [1, 2, 3, 4, 0] rfl ?_
        exact ih_3 (up2 M_3 106 (Int.toNat (g + a4)) (M 107 (Int.toNat (f + a4)))) (a4 + 1) (by omega) (by
          rw [hM, up2_stc]
          refine stc_eq fun j => ?_
          unfold uz
          by_cases q : j = (g + a4).toNat
          · rw [if_pos q, if_pos (by omega)]
            congr 1
            omega
          · rw [if_neg q]
            by_cases q2 : g ≤ (j : Int) ∧ (j : Int) < g + a4
            · rw [if_pos (by omega)]
              exact if_pos q2
            · rw [if_neg (by omega)]
              exact if_neg q2) (by omega)
  refine vv_sub (lv' := [(0, .ref (ad 107)), (1, .int (zI f)), (2, .ref (ad 106)), (3, .int (zI g)), (4, .int (zI 0))]) [1, 2, 3, 4, 0] rfl ?_
  exact loop_3 _ M 0 (by omega) (by rw [stc_eq (g := M 106) (fun j => if_neg (by omega)), stc_id]) (Nat.lt_succ_self _)
set_option maxRecDepth 100000 in
set_option maxHeartbeats 4000000 in
theorem c_X9_moves_106_108 (l : Launch) (D : va_G) {ad : Nat → Nat} (cA : Nat → ClassId) (had : adok ad) (M : Mem) (f g : Int) (hf : 0 ≤ f ∧ f + 35 ≤ 35) (hg : 0 ≤ g ∧ g + 35 ≤ 70) : CtV l yX9_moves wsX9_moves 0 0 D ad cA [.ref (ad 106), .int (zI f), .ref (ad 108), .int (zI g)] M (fun M1 => M1 = stc M 108 (fun j => if g ≤ (j : Int) ∧ (j : Int) < g + 35 then M 106 (f + ((j : Int) - g)).toNat else M 108 j)) := by
  refine CtV.of (cc := cX9_moves) (maxL := 5) (ret := none) had (by decide) rfl (Nat.le_of_ble_eq_true rfl) ?_
  intro p e s m args below meth c X hm
  show VV p l e { frames := 0, cells := 0, slots := 0, locals := 0 } s m args below meth c 5 D ad cA (Afr ad s.heap.size) 0 0 (QV below args s D ad cA (fun M1 => M1 = stc M 108 (fun j => if g ≤ (j : Int) ∧ (j : Int) < g + 35 then M 106 (f + ((j : Int) - g)).toNat else M 108 j))) M 0 [(0, .ref (ad 106)), (1, .int (zI f)), (2, .ref (ad 108)), (3, .int (zI g))] []
  refine vv_iconst (n := 0) X dX9_moves_0 ?_
  refine vv_istore (lv' := [(4, .int (zI 0)), (0, .ref (ad 106)), (1, .int (zI f)), (2, .ref (ad 108)), (3, .int (zI g))]) X (by decide) rfl dX9_moves_1 ?_
  have loop_3 : ∀ (n : Nat) (M_3 : Mem) (a4 : Int), 0 ≤ a4 ∧ a4 ≤ 35 → M_3 = stc M 108 (fun j => if g ≤ (j : Int) ∧ (j : Int) < g + a4 then M 106 (f + ((j : Int) - g)).toNat else M 108 j) → (35 - a4).toNat < n → VV p l e { frames := 0, cells := 0, slots := 0, locals := 0 } s m args below meth c 5 D ad cA (Afr ad s.heap.size) 0 0 (QV below args s D ad cA (fun M1 => M1 = stc M 108 (fun j => if g ≤ (j : Int) ∧ (j : Int) < g + 35 then M 106 (f + ((j : Int) - g)).toNat else M 108 j))) M_3 3 [(0, .ref (ad 106)), (1, .int (zI f)), (2, .ref (ad 108)), (3, .int (zI g)), (4, .int (zI a4))] [] := by
    intro n
    induction n with
    | zero => intro M_3 a4 h4 hM hn; exact absurd hn (Nat.not_lt_zero _)
    | succ n ih_3 =>
      intro M_3 a4 h4 hM hn
      have e_3_106 : M_3 106 = M 106 := by rw [hM]; exact stc_n _ _ (by decide)
      refine vv_iload X 4 rfl dX9_moves_3 ?_
      refine vv_bipush (n := 35) X (by decide) dX9_moves_5 ?_
      refine vv_icmp_ge (tgt := 28) X (by omega) (by omega) dX9_moves_7 (by decide) (fun c_7 => ?_) (fun c_7 => ?_)
      · skip
        exact vv_vret X hm (by rw [hM, show a4 = 35 by omega]) dX9_moves_28
      · skip
        refine vv_aload_n X 2 rfl rfl dX9_moves_10 ?_
        refine vv_iload_n X 3 rfl rfl dX9_moves_11 ?_
        refine vv_iload X 4 rfl dX9_moves_12 ?_
        refine vv_iadd X dX9_moves_14 ?_
        refine vv_aload_n X 0 rfl rfl dX9_moves_15 ?_
        refine vv_iload_n X 1 rfl rfl dX9_moves_16 ?_
        refine vv_iload X 4 rfl dX9_moves_17 ?_
        refine vv_iadd X dX9_moves_19 ?_
        refine vv_iald (z := (M 106 (Int.toNat (f + a4)))) X (by decide) sh_106 (by decide) (by omega) (show M_3 106 (Int.toNat (f + a4)) = M 106 (Int.toNat (f + a4)) from by rw [e_3_106]) dX9_moves_20 ?_
        refine vv_iast (ix := (Int.toNat (g + a4))) X (by decide) sh_108 (by decide) (by omega) (rfl) dX9_moves_21 ?_
        refine vv_iinc (lv' := [(4, .int (zI (a4 + 1))), (0, .ref (ad 106)), (1, .int (zI f)), (2, .ref (ad 108)), (3, .int (zI g))]) X 4 rfl (by decide) rfl dX9_moves_22 ?_
        refine vv_goto (tgt := 3) X (by decide) dX9_moves_25 ?_
        refine vv_sub (lv' := [(0, .ref (ad 106)), (1, .int (zI f)), (2, .ref (ad 108)), (3, .int (zI g)), (4, .int (zI (a4 + 1)))]) [1, 2, 3, 4, 0] rfl ?_
        exact ih_3 (up2 M_3 108 (Int.toNat (g + a4)) (M 106 (Int.toNat (f + a4)))) (a4 + 1) (by omega) (by
          rw [hM, up2_stc]
          refine stc_eq fun j => ?_
          unfold uz
          by_cases q : j = (g + a4).toNat
          · rw [if_pos q, if_pos (by omega)]
            congr 1
            omega
          · rw [if_neg q]
            by_cases q2 : g ≤ (j : Int) ∧ (j : Int) < g + a4
            · rw [if_pos (by omega)]
              exact if_pos q2
            · rw [if_neg (by omega)]
              exact if_neg q2) (by omega)
  refine vv_sub (lv' := [(0, .ref (ad 106)), (1, .int (zI f)), (2, .ref (ad 108)), (3, .int (zI g)), (4, .int (zI 0))]) [1, 2, 3, 4, 0] rfl ?_
  exact loop_3 _ M 0 (by omega) (by rw [stc_eq (g := M 108) (fun j => if_neg (by omega)), stc_id]) (Nat.lt_succ_self _)
set_option maxRecDepth 100000 in
set_option maxHeartbeats 4000000 in
theorem c_X9_moves_108_106 (l : Launch) (D : va_G) {ad : Nat → Nat} (cA : Nat → ClassId) (had : adok ad) (M : Mem) (f g : Int) (hf : 0 ≤ f ∧ f + 35 ≤ 70) (hg : 0 ≤ g ∧ g + 35 ≤ 35) : CtV l yX9_moves wsX9_moves 0 0 D ad cA [.ref (ad 108), .int (zI f), .ref (ad 106), .int (zI g)] M (fun M1 => M1 = stc M 106 (fun j => if g ≤ (j : Int) ∧ (j : Int) < g + 35 then M 108 (f + ((j : Int) - g)).toNat else M 106 j)) := by
  refine CtV.of (cc := cX9_moves) (maxL := 5) (ret := none) had (by decide) rfl (Nat.le_of_ble_eq_true rfl) ?_
  intro p e s m args below meth c X hm
  show VV p l e { frames := 0, cells := 0, slots := 0, locals := 0 } s m args below meth c 5 D ad cA (Afr ad s.heap.size) 0 0 (QV below args s D ad cA (fun M1 => M1 = stc M 106 (fun j => if g ≤ (j : Int) ∧ (j : Int) < g + 35 then M 108 (f + ((j : Int) - g)).toNat else M 106 j))) M 0 [(0, .ref (ad 108)), (1, .int (zI f)), (2, .ref (ad 106)), (3, .int (zI g))] []
  refine vv_iconst (n := 0) X dX9_moves_0 ?_
  refine vv_istore (lv' := [(4, .int (zI 0)), (0, .ref (ad 108)), (1, .int (zI f)), (2, .ref (ad 106)), (3, .int (zI g))]) X (by decide) rfl dX9_moves_1 ?_
  have loop_3 : ∀ (n : Nat) (M_3 : Mem) (a4 : Int), 0 ≤ a4 ∧ a4 ≤ 35 → M_3 = stc M 106 (fun j => if g ≤ (j : Int) ∧ (j : Int) < g + a4 then M 108 (f + ((j : Int) - g)).toNat else M 106 j) → (35 - a4).toNat < n → VV p l e { frames := 0, cells := 0, slots := 0, locals := 0 } s m args below meth c 5 D ad cA (Afr ad s.heap.size) 0 0 (QV below args s D ad cA (fun M1 => M1 = stc M 106 (fun j => if g ≤ (j : Int) ∧ (j : Int) < g + 35 then M 108 (f + ((j : Int) - g)).toNat else M 106 j))) M_3 3 [(0, .ref (ad 108)), (1, .int (zI f)), (2, .ref (ad 106)), (3, .int (zI g)), (4, .int (zI a4))] [] := by
    intro n
    induction n with
    | zero => intro M_3 a4 h4 hM hn; exact absurd hn (Nat.not_lt_zero _)
    | succ n ih_3 =>
      intro M_3 a4 h4 hM hn
      have e_3_108 : M_3 108 = M 108 := by rw [hM]; exact stc_n _ _ (by decide)
      refine vv_iload X 4 rfl dX9_moves_3 ?_
      refine vv_bipush (n := 35) X (by decide) dX9_moves_5 ?_
      refine vv_icmp_ge (tgt := 28) X (by omega) (by omega) dX9_moves_7 (by decide) (fun c_7 => ?_) (fun c_7 => ?_)
      · skip
        exact vv_vret X hm (by rw [hM, show a4 = 35 by omega]) dX9_moves_28
      · skip
        refine vv_aload_n X 2 rfl rfl dX9_moves_10 ?_
        refine vv_iload_n X 3 rfl rfl dX9_moves_11 ?_
        refine vv_iload X 4 rfl dX9_moves_12 ?_
        refine vv_iadd X dX9_moves_14 ?_
        refine vv_aload_n X 0 rfl rfl dX9_moves_15 ?_
        refine vv_iload_n X 1 rfl rfl dX9_moves_16 ?_
        refine vv_iload X 4 rfl dX9_moves_17 ?_
        refine vv_iadd X dX9_moves_19 ?_
        refine vv_iald (z := (M 108 (Int.toNat (f + a4)))) X (by decide) sh_108 (by decide) (by omega) (show M_3 108 (Int.toNat (f + a4)) = M 108 (Int.toNat (f + a4)) from by rw [e_3_108]) dX9_moves_20 ?_
        refine vv_iast (ix := (Int.toNat (g + a4))) X (by decide) sh_106 (by decide) (by omega) (rfl) dX9_moves_21 ?_
        refine vv_iinc (lv' := [(4, .int (zI (a4 + 1))), (0, .ref (ad 108)), (1, .int (zI f)), (2, .ref (ad 106)), (3, .int (zI g))]) X 4 rfl (by decide) rfl dX9_moves_22 ?_
        refine vv_goto (tgt := 3) X (by decide) dX9_moves_25 ?_
        refine vv_sub (lv' := [(0, .ref (ad 108)), (1, .int (zI f)), (2, .ref (ad 106)), (3, .int (zI g)), (4, .int (zI (a4 + 1)))]) [1, 2, 3, 4, 0] rfl ?_
        exact ih_3 (up2 M_3 106 (Int.toNat (g + a4)) (M 108 (Int.toNat (f + a4)))) (a4 + 1) (by omega) (by
          rw [hM, up2_stc]
          refine stc_eq fun j => ?_
          unfold uz
          by_cases q : j = (g + a4).toNat
          · rw [if_pos q, if_pos (by omega)]
            congr 1
            omega
          · rw [if_neg q]
            by_cases q2 : g ≤ (j : Int) ∧ (j : Int) < g + a4
            · rw [if_pos (by omega)]
              exact if_pos q2
            · rw [if_neg (by omega)]
              exact if_neg q2) (by omega)
  refine vv_sub (lv' := [(0, .ref (ad 108)), (1, .int (zI f)), (2, .ref (ad 106)), (3, .int (zI g)), (4, .int (zI 0))]) [1, 2, 3, 4, 0] rfl ?_
  exact loop_3 _ M 0 (by omega) (by rw [stc_eq (g := M 106) (fun j => if_neg (by omega)), stc_id]) (Nat.lt_succ_self _)
set_option maxRecDepth 100000 in
set_option maxHeartbeats 4000000 in
theorem c_X9_divisor (l : Launch) (D : va_G) {ad : Nat → Nat} (cA : Nat → ClassId) (had : adok ad) (M : Mem) (a b : Int) (ha : 0 ≤ a ∧ a ≤ 2147483647) (hb : 0 ≤ b ∧ b ≤ 2147483647) : CtI l yX9_divisor wsX9_divisor 0 0 D ad cA [.int (zI a), .int (zI b)] M (fun z M1 => z = (Int.gcd a b : Int) ∧ M1 = M) := by
  refine CtI.of (cc := cX9_divisor) (maxL := 5) (ret := (some .int)) had (by decide) rfl (Nat.le_of_ble_eq_true rfl) ?_
  intro p e s m args below meth c X hm
  show VV p l e { frames := 0, cells := 0, slots := 0, locals := 0 } s m args below meth c 5 D ad cA (Afr ad s.heap.size) 0 0 (QI below args s D ad cA (fun z M1 => z = (Int.gcd a b : Int) ∧ M1 = M)) M 0 [(0, .int (zI a)), (1, .int (zI b))] []
  refine vv_iload_n X 0 rfl rfl dX9_divisor_0 ?_
  refine vv_istore_n (lv' := [(2, .int (zI a)), (0, .int (zI a)), (1, .int (zI b))]) X rfl (by decide) rfl dX9_divisor_1 ?_
  refine vv_iload_n X 2 rfl rfl dX9_divisor_2 ?_
  refine vv_istore_n (lv' := [(3, .int (zI b)), (2, .int (zI a)), (0, .int (zI a)), (1, .int (zI b))]) X rfl (by decide) rfl dX9_divisor_3 ?_
  have loop_4 : ∀ (n : Nat)  (a2 : Int) (a3 : Int), 0 ≤ a2 ∧ a2 ≤ 2147483647 → 0 ≤ a3 ∧ a3 ≤ 2147483647 → Int.gcd a2 a3 = Int.gcd a b → a3.toNat < n → VV p l e { frames := 0, cells := 0, slots := 0, locals := 0 } s m args below meth c 5 D ad cA (Afr ad s.heap.size) 0 0 (QI below args s D ad cA (fun z M1 => z = (Int.gcd a b : Int) ∧ M1 = M)) M 4 [(2, .int (zI a2)), (3, .int (zI a3))] [] := by
    intro n
    induction n with
    | zero => intro a2 a3 h2 h3 hG hn; exact absurd hn (Nat.not_lt_zero _)
    | succ n ih_4 =>
      intro a2 a3 h2 h3 hG hn
      have hmd := fun q : 0 < a3 => gcdM h2.1 q
      refine vv_iload_n X 1 rfl rfl dX9_divisor_4 ?_
      refine vv_if_eq (tgt := 21) X (by omega) dX9_divisor_5 (by decide) (fun c_5 => ?_) (fun c_5 => ?_)
      · skip
        refine vv_iload_n X 0 rfl rfl dX9_divisor_21 ?_
        exact vv_iret X hm (⟨by rw [← hG]; exact gcd_end h2.1 (by omega), rfl⟩) dX9_divisor_22
      · skip
        refine vv_iload_n X 0 rfl rfl dX9_divisor_8 ?_
        refine vv_iload_n X 1 rfl rfl dX9_divisor_9 ?_
        refine vv_irem X (by omega) (by omega) (by omega) dX9_divisor_10 ?_
        refine vv_istore (lv' := [(4, .int (zI (Int.tmod a2 a3))), (2, .int (zI a2)), (3, .int (zI a3))]) X (by decide) rfl dX9_divisor_11 ?_
        refine vv_iload_n X 2 rfl rfl dX9_divisor_13 ?_
        refine vv_istore_n (lv' := [(2, .int (zI a3)), (4, .int (zI (Int.tmod a2 a3))), (3, .int (zI a3))]) X rfl (by decide) rfl dX9_divisor_14 ?_
        refine vv_iload X 1 rfl dX9_divisor_15 ?_
        refine vv_istore_n (lv' := [(3, .int (zI (Int.tmod a2 a3))), (2, .int (zI a3)), (4, .int (zI (Int.tmod a2 a3)))]) X rfl (by decide) rfl dX9_divisor_17 ?_
        refine vv_goto (tgt := 4) X (by decide) dX9_divisor_18 ?_
        refine vv_sub (lv' := [(2, .int (zI a3)), (3, .int (zI (Int.tmod a2 a3)))]) [1, 0] rfl ?_
        exact ih_4 a3 (Int.tmod a2 a3) h3 (by have := hmd (by omega); omega) (by rw [gcdS h2.1 (by omega), hG]) (by have := hmd (by omega); omega)
  refine vv_sub (lv' := [(2, .int (zI a)), (3, .int (zI b))]) [1, 0] rfl ?_
  exact loop_4 _ a b ha hb rfl (Nat.lt_succ_self _)
theorem u_X9_takeFraction_9 : ∀ w ∈ u_ws RX9 TX9 20, w ∈ wsX9_takeFraction := by decide +kernel
theorem k_X9_takeFraction_47 : Cond.fieldLink yX9_takeFraction.cls 47 (TX9 10).1 (TX9 10).2.1 (TX9 10).2.2.1 ∈ wsX9_takeFraction := by decide +kernel
theorem k_X9_takeFraction_50 : Cond.fieldLink yX9_takeFraction.cls 50 (TX9 11).1 (TX9 11).2.1 (TX9 11).2.2.1 ∈ wsX9_takeFraction := by decide +kernel
set_option maxRecDepth 100000 in
set_option maxHeartbeats 4000000 in
theorem c_X9_takeFraction (l : Launch) (D : va_G) {ad : Nat → Nat} (cA : Nat → ClassId) (had : adok ad) (M : Mem) (a b : Int) (ha : -1073741824 ≤ a ∧ a ≤ 1073741824) (hb : b ≤ 1073741824) (hb0 : 0 < b) : CtV l yX9_takeFraction wsX9_takeFraction 1 24 D ad cA [.ref (ad 105), .int (zI a), .int (zI b)] M (fun M1 => M1 = up2 (up2 M 105 10 (frA a b)) 105 11 (frB a b)) := by
  refine CtV.of (cc := cX9_takeFraction) (maxL := 4) (ret := none) had (by decide) rfl (Nat.le_of_ble_eq_true rfl) ?_
  intro p e s m args below meth c X hm
  show VV p l e { frames := 1, cells := 0, slots := 0, locals := 24 } s m args below meth c 4 D ad cA (Afr ad s.heap.size) 0 0 (QV below args s D ad cA (fun M1 => M1 = up2 (up2 M 105 10 (frA a b)) 105 11 (frB a b))) M 0 [(0, .ref (ad 105)), (1, .int (zI a)), (2, .int (zI b))] []
  refine vv_iload_n X 1 rfl rfl dX9_takeFraction_0 ?_
  refine vv_if_ge (tgt := 9) X (by omega) dX9_takeFraction_1 (by decide) (fun c_1 => ?_) (fun c_1 => ?_)
  · skip
    refine vv_iload_n X 1 rfl rfl dX9_takeFraction_9 ?_
    refine vv_iload_n X 2 rfl rfl dX9_takeFraction_10 ?_
    refine vv_callSI (As := [.int (zI a), .int (zI b)]) (st := []) X 2 (c_X9_divisor l D cA had M a b (by omega) (by omega)) gX9_takeFraction_X9_divisor rfl (by decide +kernel) ⟨by decide, by decide⟩ (Nat.le_of_ble_eq_true rfl) ⟨by decide, by decide⟩ rfl rfl dX9_takeFraction_11 (fun z11 Mc11 q_11 => ?_)
    obtain ⟨e_z11, g_z11⟩ := q_11
    have g_z11 := g_z11.symm
    subst g_z11
    have hg := fr_g (a := a) hb0
    have hgb : (Int.gcd a b : Int) ≤ b := Int.le_of_dvd hb0 (Int.gcd_dvd_right a b)
    have e_g : (Int.gcd (-a) b : Int) = (Int.gcd a b : Int) := by rw [Int.neg_gcd]
    rw [show z11 = (Int.gcd a b : Int) from by rw [e_z11]; try exact e_g]
    refine vv_istore_n (lv' := [(3, .int (zI (Int.gcd a b : Int))), (0, .ref (ad 105)), (1, .int (zI a)), (2, .int (zI b))]) X rfl (by decide) rfl dX9_takeFraction_14 ?_
    refine vv_aload_n X 1 rfl rfl dX9_takeFraction_15 ?_
    refine vv_iload_n X 2 rfl rfl dX9_takeFraction_16 ?_
    refine vv_iload_n X 0 rfl rfl dX9_takeFraction_17 ?_
    refine vv_idiv X (by omega) (by omega) (by omega) dX9_takeFraction_18 ?_
    refine vv_puti (Nf := 20) (ref := (TX9 10).1) X (by decide) sh_105 rfl 10 (by decide) u_X9_takeFraction_9 k_X9_takeFraction_47 rfl tyX9_ok nmX9 rfl (by decide +kernel) rfl rfl dX9_takeFraction_19 ?_
    refine vv_aload_n X 1 rfl rfl dX9_takeFraction_22 ?_
    refine vv_iload_n X 3 rfl rfl dX9_takeFraction_23 ?_
    refine vv_iload_n X 0 rfl rfl dX9_takeFraction_24 ?_
    refine vv_idiv X (by omega) (by omega) (by omega) dX9_takeFraction_25 ?_
    refine vv_puti (Nf := 20) (ref := (TX9 11).1) X (by decide) sh_105 rfl 11 (by decide) u_X9_takeFraction_9 k_X9_takeFraction_50 rfl tyX9_ok nmX9 rfl (by decide +kernel) rfl rfl dX9_takeFraction_26 ?_
    exact vv_vret X hm (rfl) dX9_takeFraction_29
  · skip
    refine vv_iload_n X 1 rfl rfl dX9_takeFraction_4 ?_
    refine vv_ineg X dX9_takeFraction_5 ?_
    refine vv_goto (tgt := 10) X (by decide) dX9_takeFraction_6 ?_
    refine vv_iload_n X 2 rfl rfl dX9_takeFraction_10 ?_
    refine vv_callSI (As := [.int (zI (-a)), .int (zI b)]) (st := []) X 2 (c_X9_divisor l D cA had M (-a) b (by omega) (by omega)) gX9_takeFraction_X9_divisor rfl (by decide +kernel) ⟨by decide, by decide⟩ (Nat.le_of_ble_eq_true rfl) ⟨by decide, by decide⟩ rfl rfl dX9_takeFraction_11 (fun z11 Mc11 q_11 => ?_)
    obtain ⟨e_z11, g_z11⟩ := q_11
    have g_z11 := g_z11.symm
    subst g_z11
    have hg := fr_g (a := a) hb0
    have hgb : (Int.gcd a b : Int) ≤ b := Int.le_of_dvd hb0 (Int.gcd_dvd_right a b)
    have e_g : (Int.gcd (-a) b : Int) = (Int.gcd a b : Int) := by rw [Int.neg_gcd]
    rw [show z11 = (Int.gcd a b : Int) from by rw [e_z11]; try exact e_g]
    refine vv_istore_n (lv' := [(3, .int (zI (Int.gcd a b : Int))), (0, .ref (ad 105)), (1, .int (zI a)), (2, .int (zI b))]) X rfl (by decide) rfl dX9_takeFraction_14 ?_
    refine vv_aload_n X 1 rfl rfl dX9_takeFraction_15 ?_
    refine vv_iload_n X 2 rfl rfl dX9_takeFraction_16 ?_
    refine vv_iload_n X 0 rfl rfl dX9_takeFraction_17 ?_
    refine vv_idiv X (by omega) (by omega) (by omega) dX9_takeFraction_18 ?_
    refine vv_puti (Nf := 20) (ref := (TX9 10).1) X (by decide) sh_105 rfl 10 (by decide) u_X9_takeFraction_9 k_X9_takeFraction_47 rfl tyX9_ok nmX9 rfl (by decide +kernel) rfl rfl dX9_takeFraction_19 ?_
    refine vv_aload_n X 1 rfl rfl dX9_takeFraction_22 ?_
    refine vv_iload_n X 3 rfl rfl dX9_takeFraction_23 ?_
    refine vv_iload_n X 0 rfl rfl dX9_takeFraction_24 ?_
    refine vv_idiv X (by omega) (by omega) (by omega) dX9_takeFraction_25 ?_
    refine vv_puti (Nf := 20) (ref := (TX9 11).1) X (by decide) sh_105 rfl 11 (by decide) u_X9_takeFraction_9 k_X9_takeFraction_50 rfl tyX9_ok nmX9 rfl (by decide +kernel) rfl rfl dX9_takeFraction_26 ?_
    exact vv_vret X hm (rfl) dX9_takeFraction_29
theorem u_X9_isReceiver_9 : ∀ w ∈ u_ws RX9 TX9 20, w ∈ wsX9_isReceiver := by decide +kernel
theorem k_X9_isReceiver_7 : Cond.fieldLink yX9_isReceiver.cls 7 (TX9 0).1 (TX9 0).2.1 (TX9 0).2.2.1 ∈ wsX9_isReceiver := by decide +kernel
set_option maxRecDepth 100000 in
set_option maxHeartbeats 4000000 in
theorem c_X9_isReceiver (l : Launch) (D : va_G) {ad : Nat → Nat} (cA : Nat → ClassId) (had : adok ad) (M : Mem) (r : Int) (hr : -2147483648 ≤ r ∧ r ≤ 2147483647) (hn : 0 ≤ M 106 1 ∧ M 106 1 ≤ 5) : CtI l yX9_isReceiver wsX9_isReceiver 1 22 D ad cA [.ref (ad 105), .int (zI r)] M (fun z M1 => z = (if 0 ≤ r ∧ r < M 106 1 then 1 else 0) ∧ M1 = M) := by
  refine CtI.of (cc := cX9_isReceiver) (maxL := 2) (ret := (some .boolean)) had (by decide) rfl (Nat.le_of_ble_eq_true rfl) ?_
  intro p e s m args below meth c X hm
  show VV p l e { frames := 1, cells := 0, slots := 0, locals := 22 } s m args below meth c 2 D ad cA (Afr ad s.heap.size) 0 0 (QI below args s D ad cA (fun z M1 => z = (if 0 ≤ r ∧ r < M 106 1 then 1 else 0) ∧ M1 = M)) M 0 [(0, .ref (ad 105)), (1, .int (zI r))] []
  refine vv_iload_n X 1 rfl rfl dX9_isReceiver_0 ?_
  refine vv_iconst (n := 0) X dX9_isReceiver_1 ?_
  refine vv_aload_n X 0 rfl rfl dX9_isReceiver_2 ?_
  refine vv_getr (Nf := 20) (ref := (TX9 0).1) X (by decide) sh_105 rfl 0 (by decide) u_X9_isReceiver_9 k_X9_isReceiver_7 rfl rfl dX9_isReceiver_3 ?_
  refine vv_iconst (n := 1) X dX9_isReceiver_6 ?_
  refine vv_iald (z := (M 106 1)) X (by decide) sh_106 (by decide) (by omega) (rfl) dX9_isReceiver_7 ?_
  refine vv_iconst (n := 1) X dX9_isReceiver_8 ?_
  refine vv_isub X dX9_isReceiver_9 ?_
  refine vv_callSI (As := [.int (zI r), .int (zI 0), .int (zI ((M 106 1) - 1))]) (st := []) X 3 (c_X9_within l D cA had M r 0 ((M 106 1) - 1) (by omega) (by omega) (by omega)) gX9_isReceiver_X9_within rfl (by decide +kernel) ⟨by decide, by decide⟩ (Nat.le_of_ble_eq_true rfl) ⟨by decide, by decide⟩ rfl rfl dX9_isReceiver_10 (fun z10 Mc10 q_10 => ?_)
  obtain ⟨e_z10, g_z10⟩ := q_10
  have g_z10 := g_z10.symm
  subst g_z10
  exact vv_zret X hm (by rw [e_z10]; split <;> omega) (⟨by
    rw [e_z10]
    by_cases q : 0 ≤ r ∧ r < M 106 1
    · rw [if_pos q, if_pos (by omega)]
    · rw [if_neg q, if_neg (by omega)], rfl⟩) dX9_isReceiver_13
theorem u_X9_isPart_9 : ∀ w ∈ u_ws RX9 TX9 20, w ∈ wsX9_isPart := by decide +kernel
theorem k_X9_isPart_7 : Cond.fieldLink yX9_isPart.cls 7 (TX9 0).1 (TX9 0).2.1 (TX9 0).2.2.1 ∈ wsX9_isPart := by decide +kernel
set_option maxRecDepth 100000 in
set_option maxHeartbeats 4000000 in
theorem c_X9_isPart (l : Launch) (D : va_G) {ad : Nat → Nat} (cA : Nat → ClassId) (had : adok ad) (M : Mem) (r : Int) (hr : -2147483648 ≤ r ∧ r ≤ 2147483647) (hn : 0 ≤ M 106 2 ∧ M 106 2 ≤ 6) : CtI l yX9_isPart wsX9_isPart 1 22 D ad cA [.ref (ad 105), .int (zI r)] M (fun z M1 => z = (if 0 ≤ r ∧ r < M 106 2 then 1 else 0) ∧ M1 = M) := by
  refine CtI.of (cc := cX9_isPart) (maxL := 2) (ret := (some .boolean)) had (by decide) rfl (Nat.le_of_ble_eq_true rfl) ?_
  intro p e s m args below meth c X hm
  show VV p l e { frames := 1, cells := 0, slots := 0, locals := 22 } s m args below meth c 2 D ad cA (Afr ad s.heap.size) 0 0 (QI below args s D ad cA (fun z M1 => z = (if 0 ≤ r ∧ r < M 106 2 then 1 else 0) ∧ M1 = M)) M 0 [(0, .ref (ad 105)), (1, .int (zI r))] []
  refine vv_iload_n X 1 rfl rfl dX9_isPart_0 ?_
  refine vv_iconst (n := 0) X dX9_isPart_1 ?_
  refine vv_aload_n X 0 rfl rfl dX9_isPart_2 ?_
  refine vv_getr (Nf := 20) (ref := (TX9 0).1) X (by decide) sh_105 rfl 0 (by decide) u_X9_isPart_9 k_X9_isPart_7 rfl rfl dX9_isPart_3 ?_
  refine vv_iconst (n := 2) X dX9_isPart_6 ?_
  refine vv_iald (z := (M 106 2)) X (by decide) sh_106 (by decide) (by omega) (rfl) dX9_isPart_7 ?_
  refine vv_iconst (n := 1) X dX9_isPart_8 ?_
  refine vv_isub X dX9_isPart_9 ?_
  refine vv_callSI (As := [.int (zI r), .int (zI 0), .int (zI ((M 106 2) - 1))]) (st := []) X 3 (c_X9_within l D cA had M r 0 ((M 106 2) - 1) (by omega) (by omega) (by omega)) gX9_isPart_X9_within rfl (by decide +kernel) ⟨by decide, by decide⟩ (Nat.le_of_ble_eq_true rfl) ⟨by decide, by decide⟩ rfl rfl dX9_isPart_10 (fun z10 Mc10 q_10 => ?_)
  obtain ⟨e_z10, g_z10⟩ := q_10
  have g_z10 := g_z10.symm
  subst g_z10
  exact vv_zret X hm (by rw [e_z10]; split <;> omega) (⟨by
    rw [e_z10]
    by_cases q : 0 ≤ r ∧ r < M 106 2
    · rw [if_pos q, if_pos (by omega)]
    · rw [if_neg q, if_neg (by omega)], rfl⟩) dX9_isPart_13
theorem u_X9_receiverPart_9 : ∀ w ∈ u_ws RX9 TX9 20, w ∈ wsX9_receiverPart := by decide +kernel
theorem k_X9_receiverPart_7 : Cond.fieldLink yX9_receiverPart.cls 7 (TX9 0).1 (TX9 0).2.1 (TX9 0).2.2.1 ∈ wsX9_receiverPart := by decide +kernel
set_option maxRecDepth 100000 in
set_option maxHeartbeats 4000000 in
theorem c_X9_receiverPart (l : Launch) (D : va_G) {ad : Nat → Nat} (cA : Nat → ClassId) (had : adok ad) (M : Mem) (r f : Int) (hr : 0 ≤ r ∧ r < 5) (hf : 0 ≤ f ∧ f < 4) : CtI l yX9_receiverPart wsX9_receiverPart 0 0 D ad cA [.ref (ad 105), .int (zI r), .int (zI f)] M (fun z M1 => z = M 106 (3 + 4 * r + f).toNat ∧ M1 = M) := by
  refine CtI.of (cc := cX9_receiverPart) (maxL := 3) (ret := (some .int)) had (by decide) rfl (Nat.le_of_ble_eq_true rfl) ?_
  intro p e s m args below meth c X hm
  show VV p l e { frames := 0, cells := 0, slots := 0, locals := 0 } s m args below meth c 3 D ad cA (Afr ad s.heap.size) 0 0 (QI below args s D ad cA (fun z M1 => z = M 106 (3 + 4 * r + f).toNat ∧ M1 = M)) M 0 [(0, .ref (ad 105)), (1, .int (zI r)), (2, .int (zI f))] []
  refine vv_aload_n X 0 rfl rfl dX9_receiverPart_0 ?_
  refine vv_getr (Nf := 20) (ref := (TX9 0).1) X (by decide) sh_105 rfl 0 (by decide) u_X9_receiverPart_9 k_X9_receiverPart_7 rfl rfl dX9_receiverPart_1 ?_
  refine vv_iconst (n := 3) X dX9_receiverPart_4 ?_
  refine vv_iconst (n := 4) X dX9_receiverPart_5 ?_
  refine vv_iload_n X 1 rfl rfl dX9_receiverPart_6 ?_
  refine vv_imul X dX9_receiverPart_7 ?_
  refine vv_iadd X dX9_receiverPart_8 ?_
  refine vv_iload_n X 2 rfl rfl dX9_receiverPart_9 ?_
  refine vv_iadd X dX9_receiverPart_10 ?_
  refine vv_iald (z := (M 106 (Int.toNat ((3 + (4 * r)) + f)))) X (by decide) sh_106 (by decide) (by omega) (rfl) dX9_receiverPart_11 ?_
  exact vv_iret X hm (⟨rfl, rfl⟩) dX9_receiverPart_12
set_option maxRecDepth 100000 in
set_option maxHeartbeats 4000000 in
theorem c_X9_worthAt (l : Launch) (D : va_G) {ad : Nat → Nat} (cA : Nat → ClassId) (had : adok ad) (M : Mem) (r x : Int) (hr : 0 ≤ r ∧ r < M 106 1) (hx : 0 ≤ x ∧ x ≤ 100) (hW : rWR M) : CtI l yX9_worthAt wsX9_worthAt 1 22 D ad cA [.ref (ad 105), .int (zI r), .int (zI x)] M (fun z M1 => z = (if x * rG M r.toNat - (100 - x) * rL M r.toNat < 0 then 0 else x * rG M r.toNat - (100 - x) * rL M r.toNat) ∧ M1 = M) := by
  refine CtI.of (cc := cX9_worthAt) (maxL := 4) (ret := (some .int)) had (by decide) rfl (Nat.le_of_ble_eq_true rfl) ?_
  intro p e s m args below meth c X hm
  show VV p l e { frames := 1, cells := 0, slots := 0, locals := 22 } s m args below meth c 4 D ad cA (Afr ad s.heap.size) 0 0 (QI below args s D ad cA (fun z M1 => z = (if x * rG M r.toNat - (100 - x) * rL M r.toNat < 0 then 0 else x * rG M r.toNat - (100 - x) * rL M r.toNat) ∧ M1 = M)) M 0 [(0, .ref (ad 105)), (1, .int (zI r)), (2, .int (zI x))] []
  have h5 := hW.2.1
  have hw := hW.2.2 r.toNat (by omega)
  have b1 := mulB hx (show 0 ≤ rG M r.toNat ∧ rG M r.toNat ≤ 99 by omega)
  have b2 := mulB (a := 100 - x) (A := 100) (by omega) (show 0 ≤ rL M r.toNat ∧ rL M r.toNat ≤ 99 by omega)
  refine vv_iload_n X 2 rfl rfl dX9_worthAt_0 ?_
  refine vv_aload_n X 0 rfl rfl dX9_worthAt_1 ?_
  refine vv_iload_n X 1 rfl rfl dX9_worthAt_2 ?_
  refine vv_iconst (n := 1) X dX9_worthAt_3 ?_
  refine vv_callVI (As := [.int (zI r), .int (zI 1)]) (st := [.int (zI x)]) (Nf := 20) X 2 (c_X9_receiverPart l D cA had M r 1 (by omega) (by omega)) gX9_worthAt_X9_receiverPart rfl (by decide +kernel) ⟨by decide, by decide⟩ (Nat.le_of_ble_eq_true rfl) ⟨by decide, by decide⟩ rfl (by decide) sh_105 rfl rfl dX9_worthAt_4 (fun z4 Mc4 q_4 => ?_)
  obtain ⟨e_z4, g_z4⟩ := q_4
  have g_z4 := g_z4.symm
  subst g_z4
  have e_p4 : z4 = rG M (r.toNat) := by rw [e_z4]; show M 106 _ = M 106 _; congr 1; omega
  rw [show z4 = (rG M r.toNat) from e_p4]
  refine vv_imul X dX9_worthAt_7 ?_
  refine vv_bipush (n := 100) X (by decide) dX9_worthAt_8 ?_
  refine vv_iload_n X 2 rfl rfl dX9_worthAt_10 ?_
  refine vv_isub X dX9_worthAt_11 ?_
  refine vv_aload_n X 0 rfl rfl dX9_worthAt_12 ?_
  refine vv_iload_n X 1 rfl rfl dX9_worthAt_13 ?_
  refine vv_iconst (n := 0) X dX9_worthAt_14 ?_
  refine vv_callVI (As := [.int (zI r), .int (zI 0)]) (st := [.int (zI (100 - x)), .int (zI (x * (rG M r.toNat)))]) (Nf := 20) X 2 (c_X9_receiverPart l D cA had M r 0 (by omega) (by omega)) gX9_worthAt_X9_receiverPart rfl (by decide +kernel) ⟨by decide, by decide⟩ (Nat.le_of_ble_eq_true rfl) ⟨by decide, by decide⟩ rfl (by decide) sh_105 rfl rfl dX9_worthAt_15 (fun z15 Mc15 q_15 => ?_)
  obtain ⟨e_z15, g_z15⟩ := q_15
  have g_z15 := g_z15.symm
  subst g_z15
  have e_p15 : z15 = rL M (r.toNat) := by rw [e_z15]; show M 106 _ = M 106 _; congr 1; omega
  rw [show z15 = (rL M r.toNat) from e_p15]
  refine vv_imul X dX9_worthAt_18 ?_
  refine vv_isub X dX9_worthAt_19 ?_
  refine vv_istore_n (lv' := [(3, .int (zI ((x * (rG M r.toNat)) - ((100 - x) * (rL M r.toNat))))), (0, .ref (ad 105)), (1, .int (zI r)), (2, .int (zI x))]) X rfl (by decide) rfl dX9_worthAt_20 ?_
  refine vv_iload_n X 0 rfl rfl dX9_worthAt_21 ?_
  refine vv_if_ge (tgt := 29) X (by omega) dX9_worthAt_22 (by decide) (fun c_22 => ?_) (fun c_22 => ?_)
  · skip
    refine vv_iload_n X 0 rfl rfl dX9_worthAt_29 ?_
    exact vv_iret X hm (⟨by first | (rw [if_pos (by omega)]) | (rw [if_neg (by omega)]), rfl⟩) dX9_worthAt_30
  · skip
    refine vv_iconst (n := 0) X dX9_worthAt_25 ?_
    refine vv_goto (tgt := 30) X (by decide) dX9_worthAt_26 ?_
    exact vv_iret X hm (⟨by first | (rw [if_pos (by omega)]) | (rw [if_neg (by omega)]), rfl⟩) dX9_worthAt_30
set_option maxRecDepth 100000 in
set_option maxHeartbeats 4000000 in
theorem c_X9_acts (l : Launch) (D : va_G) {ad : Nat → Nat} (cA : Nat → ClassId) (had : adok ad) (M : Mem) (r x : Int) (hr : 0 ≤ r ∧ r < M 106 1) (hx : 0 ≤ x ∧ x ≤ 100) (hW : rWR M) : CtI l yX9_acts wsX9_acts 1 22 D ad cA [.ref (ad 105), .int (zI r), .int (zI x)] M (fun z M1 => z = (if ac (rL M) (rG M) x r.toNat then 1 else 0) ∧ M1 = M) := by
  refine CtI.of (cc := cX9_acts) (maxL := 3) (ret := (some .boolean)) had (by decide) rfl (Nat.le_of_ble_eq_true rfl) ?_
  intro p e s m args below meth c X hm
  show VV p l e { frames := 1, cells := 0, slots := 0, locals := 22 } s m args below meth c 3 D ad cA (Afr ad s.heap.size) 0 0 (QI below args s D ad cA (fun z M1 => z = (if ac (rL M) (rG M) x r.toNat then 1 else 0) ∧ M1 = M)) M 0 [(0, .ref (ad 105)), (1, .int (zI r)), (2, .int (zI x))] []
  have h5 := hW.2.1
  have hw := hW.2.2 r.toNat (by omega)
  have b1 := mulB hx (show 0 ≤ rG M r.toNat ∧ rG M r.toNat ≤ 99 by omega)
  have b2 := mulB (a := 100 - x) (A := 100) (by omega) (show 0 ≤ rL M r.toNat ∧ rL M r.toNat ≤ 99 by omega)
  refine vv_iload_n X 2 rfl rfl dX9_acts_0 ?_
  refine vv_aload_n X 0 rfl rfl dX9_acts_1 ?_
  refine vv_iload_n X 1 rfl rfl dX9_acts_2 ?_
  refine vv_iconst (n := 1) X dX9_acts_3 ?_
  refine vv_callVI (As := [.int (zI r), .int (zI 1)]) (st := [.int (zI x)]) (Nf := 20) X 2 (c_X9_receiverPart l D cA had M r 1 (by omega) (by omega)) gX9_acts_X9_receiverPart rfl (by decide +kernel) ⟨by decide, by decide⟩ (Nat.le_of_ble_eq_true rfl) ⟨by decide, by decide⟩ rfl (by decide) sh_105 rfl rfl dX9_acts_4 (fun z4 Mc4 q_4 => ?_)
  obtain ⟨e_z4, g_z4⟩ := q_4
  have g_z4 := g_z4.symm
  subst g_z4
  have e_p4 : z4 = rG M (r.toNat) := by rw [e_z4]; show M 106 _ = M 106 _; congr 1; omega
  rw [show z4 = (rG M r.toNat) from e_p4]
  refine vv_imul X dX9_acts_7 ?_
  refine vv_bipush (n := 100) X (by decide) dX9_acts_8 ?_
  refine vv_iload_n X 2 rfl rfl dX9_acts_10 ?_
  refine vv_isub X dX9_acts_11 ?_
  refine vv_aload_n X 0 rfl rfl dX9_acts_12 ?_
  refine vv_iload_n X 1 rfl rfl dX9_acts_13 ?_
  refine vv_iconst (n := 0) X dX9_acts_14 ?_
  refine vv_callVI (As := [.int (zI r), .int (zI 0)]) (st := [.int (zI (100 - x)), .int (zI (x * (rG M r.toNat)))]) (Nf := 20) X 2 (c_X9_receiverPart l D cA had M r 0 (by omega) (by omega)) gX9_acts_X9_receiverPart rfl (by decide +kernel) ⟨by decide, by decide⟩ (Nat.le_of_ble_eq_true rfl) ⟨by decide, by decide⟩ rfl (by decide) sh_105 rfl rfl dX9_acts_15 (fun z15 Mc15 q_15 => ?_)
  obtain ⟨e_z15, g_z15⟩ := q_15
  have g_z15 := g_z15.symm
  subst g_z15
  have e_p15 : z15 = rL M (r.toNat) := by rw [e_z15]; show M 106 _ = M 106 _; congr 1; omega
  rw [show z15 = (rL M r.toNat) from e_p15]
  refine vv_imul X dX9_acts_18 ?_
  refine vv_icmp_lt (tgt := 26) X (by omega) (by omega) dX9_acts_19 (by decide) (fun c_19 => ?_) (fun c_19 => ?_)
  · skip
    refine vv_iconst (n := 0) X dX9_acts_26 ?_
    exact vv_zret X hm (by omega) (⟨by first | rw [if_pos (by unfold ac; omega)] | rw [if_neg (by unfold ac; omega)], rfl⟩) dX9_acts_27
  · skip
    refine vv_iconst (n := 1) X dX9_acts_22 ?_
    refine vv_goto (tgt := 27) X (by decide) dX9_acts_23 ?_
    exact vv_zret X hm (by omega) (⟨by first | rw [if_pos (by unfold ac; omega)] | rw [if_neg (by unfold ac; omega)], rfl⟩) dX9_acts_27
theorem u_X9_actingAt_9 : ∀ w ∈ u_ws RX9 TX9 20, w ∈ wsX9_actingAt := by decide +kernel
theorem k_X9_actingAt_7 : Cond.fieldLink yX9_actingAt.cls 7 (TX9 0).1 (TX9 0).2.1 (TX9 0).2.2.1 ∈ wsX9_actingAt := by decide +kernel
set_option maxRecDepth 100000 in
set_option maxHeartbeats 4000000 in
theorem c_X9_actingAt (l : Launch) (D : va_G) {ad : Nat → Nat} (cA : Nat → ClassId) (had : adok ad) (M : Mem) (x : Int) (hx : 0 ≤ x ∧ x ≤ 100) (hW : rWR M) : CtI l yX9_actingAt wsX9_actingAt 2 44 D ad cA [.ref (ad 105), .int (zI x)] M (fun z M1 => z = mk (rL M) (rG M) x (M 106 1).toNat ∧ M1 = M) := by
  refine CtI.of (cc := cX9_actingAt) (maxL := 4) (ret := (some .int)) had (by decide) rfl (Nat.le_of_ble_eq_true rfl) ?_
  intro p e s m args below meth c X hm
  show VV p l e { frames := 2, cells := 0, slots := 0, locals := 44 } s m args below meth c 4 D ad cA (Afr ad s.heap.size) 0 0 (QI below args s D ad cA (fun z M1 => z = mk (rL M) (rG M) x (M 106 1).toNat ∧ M1 = M)) M 0 [(0, .ref (ad 105)), (1, .int (zI x))] []
  have h5 := hW.2.1
  refine vv_iconst (n := 0) X dX9_actingAt_0 ?_
  refine vv_istore_n (lv' := [(2, .int (zI 0)), (0, .ref (ad 105)), (1, .int (zI x))]) X rfl (by decide) rfl dX9_actingAt_1 ?_
  refine vv_iconst (n := 0) X dX9_actingAt_2 ?_
  refine vv_istore_n (lv' := [(3, .int (zI 0)), (2, .int (zI 0)), (0, .ref (ad 105)), (1, .int (zI x))]) X rfl (by decide) rfl dX9_actingAt_3 ?_
  have loop_4 : ∀ (n : Nat)  (k : Nat) (a2 : Int) (a3 : Int), a3 = (k : Int) → (k : Int) ≤ M 106 1 → a2 = mk (rL M) (rG M) x k → (M 106 1 - a3).toNat < n → VV p l e { frames := 2, cells := 0, slots := 0, locals := 44 } s m args below meth c 4 D ad cA (Afr ad s.heap.size) 0 0 (QI below args s D ad cA (fun z M1 => z = mk (rL M) (rG M) x (M 106 1).toNat ∧ M1 = M)) M 4 [(0, .ref (ad 105)), (1, .int (zI x)), (2, .int (zI a2)), (3, .int (zI a3))] [] := by
    intro n
    induction n with
    | zero => intro k a2 a3 h3 hk h2 hn; exact absurd hn (Nat.not_lt_zero _)
    | succ n ih_4 =>
      intro k a2 a3 h3 hk h2 hn
      have h6 : a3.toNat = k := by omega
      have hm9 := mk_b (L := rL M) (G := rG M) (x := x) k
      refine vv_iload_n X 3 rfl rfl dX9_actingAt_4 ?_
      refine vv_aload_n X 0 rfl rfl dX9_actingAt_5 ?_
      refine vv_getr (Nf := 20) (ref := (TX9 0).1) X (by decide) sh_105 rfl 0 (by decide) u_X9_actingAt_9 k_X9_actingAt_7 rfl rfl dX9_actingAt_6 ?_
      refine vv_iconst (n := 1) X dX9_actingAt_9 ?_
      refine vv_iald (z := (M 106 1)) X (by decide) sh_106 (by decide) (by omega) (rfl) dX9_actingAt_10 ?_
      refine vv_icmp_ge (tgt := 39) X (by omega) (by omega) dX9_actingAt_11 (by decide) (fun c_11 => ?_) (fun c_11 => ?_)
      · skip
        refine vv_iload_n X 2 rfl rfl dX9_actingAt_39 ?_
        exact vv_iret X hm (⟨by rw [h2, show (M 106 1).toNat = k by omega], rfl⟩) dX9_actingAt_40
      · skip
        refine vv_iload_n X 2 rfl rfl dX9_actingAt_14 ?_
        refine vv_aload_n X 0 rfl rfl dX9_actingAt_15 ?_
        refine vv_iload_n X 3 rfl rfl dX9_actingAt_16 ?_
        refine vv_iload_n X 1 rfl rfl dX9_actingAt_17 ?_
        refine vv_callVI (As := [.int (zI a3), .int (zI x)]) (st := [.int (zI a2)]) (Nf := 20) X 2 (c_X9_acts l D cA had M a3 x (by omega) (by omega) (by assumption)) gX9_actingAt_X9_acts rfl (by decide +kernel) ⟨by decide, by decide⟩ (Nat.le_of_ble_eq_true rfl) ⟨by decide, by decide⟩ rfl (by decide) sh_105 rfl rfl dX9_actingAt_18 (fun z18 Mc18 q_18 => ?_)
        obtain ⟨e_z18, g_z18⟩ := q_18
        have g_z18 := g_z18.symm
        subst g_z18
        refine vv_if_eq (tgt := 30) X (by rw [e_z18]; split <;> omega) dX9_actingAt_21 (by decide) (fun c_21 => ?_) (fun c_21 => ?_)
        · skip
          rw [h6] at e_z18
          have hac : (if ac (rL M) (rG M) x k then ((2 ^ k : Nat) : Int) else 0) = 0 := if_neg (fun q => by rw [if_pos q] at e_z18; omega)
          refine vv_iconst (n := 0) X dX9_actingAt_30 ?_
          refine vv_ior (a := a2 + 0) X (by first | (rw [h2]; exact or1 k (by omega) _ hm9) | (rw [h2, Int.add_zero]; exact or0 _)) dX9_actingAt_31 ?_
          refine vv_istore_n (lv' := [(2, .int (zI (a2 + 0))), (0, .ref (ad 105)), (1, .int (zI x)), (3, .int (zI a3))]) X rfl (by decide) rfl dX9_actingAt_32 ?_
          refine vv_iinc (lv' := [(3, .int (zI (a3 + 1))), (2, .int (zI (a2 + 0))), (0, .ref (ad 105)), (1, .int (zI x))]) X 3 rfl (by decide) rfl dX9_actingAt_33 ?_
          refine vv_goto (tgt := 4) X (by decide) dX9_actingAt_36 ?_
          refine vv_sub (lv' := [(0, .ref (ad 105)), (1, .int (zI x)), (2, .int (zI (a2 + 0))), (3, .int (zI (a3 + 1)))]) [2, 3, 1, 0] rfl ?_
          exact ih_4 (k + 1) (a2 + 0) (a3 + 1) (by omega) (by omega) (by
            have e : mk (rL M) (rG M) x (k + 1) = mk (rL M) (rG M) x k + (if ac (rL M) (rG M) x k then ((2 ^ k : Nat) : Int) else 0) := rfl
            rw [e, hac]
            omega) (by omega)
        · skip
          rw [h6] at e_z18
          have hac : (if ac (rL M) (rG M) x k then ((2 ^ k : Nat) : Int) else 0) = ((2 ^ k : Nat) : Int) := if_pos (Classical.byContradiction fun q => by rw [if_neg q] at e_z18; omega)
          refine vv_iconst (n := 1) X dX9_actingAt_24 ?_
          refine vv_iload_n X 3 rfl rfl dX9_actingAt_25 ?_
          refine vv_ishl (a := ((2 ^ k : Nat) : Int)) X (by rw [h3]; exact shl1 k (by omega)) dX9_actingAt_26 ?_
          refine vv_goto (tgt := 31) X (by decide) dX9_actingAt_27 ?_
          refine vv_ior (a := a2 + ((2 ^ k : Nat) : Int)) X (by first | (rw [h2]; exact or1 k (by omega) _ hm9) | (rw [h2, Int.add_zero]; exact or0 _)) dX9_actingAt_31 ?_
          refine vv_istore_n (lv' := [(2, .int (zI (a2 + ((2 ^ k : Nat) : Int)))), (0, .ref (ad 105)), (1, .int (zI x)), (3, .int (zI a3))]) X rfl (by decide) rfl dX9_actingAt_32 ?_
          refine vv_iinc (lv' := [(3, .int (zI (a3 + 1))), (2, .int (zI (a2 + ((2 ^ k : Nat) : Int)))), (0, .ref (ad 105)), (1, .int (zI x))]) X 3 rfl (by decide) rfl dX9_actingAt_33 ?_
          refine vv_goto (tgt := 4) X (by decide) dX9_actingAt_36 ?_
          refine vv_sub (lv' := [(0, .ref (ad 105)), (1, .int (zI x)), (2, .int (zI (a2 + ((2 ^ k : Nat) : Int)))), (3, .int (zI (a3 + 1)))]) [2, 3, 1, 0] rfl ?_
          exact ih_4 (k + 1) (a2 + ((2 ^ k : Nat) : Int)) (a3 + 1) (by omega) (by omega) (by
            have e : mk (rL M) (rG M) x (k + 1) = mk (rL M) (rG M) x k + (if ac (rL M) (rG M) x k then ((2 ^ k : Nat) : Int) else 0) := rfl
            rw [e, hac]
            omega) (by omega)
  refine vv_sub (lv' := [(0, .ref (ad 105)), (1, .int (zI x)), (2, .int (zI 0)), (3, .int (zI 0))]) [2, 3, 1, 0] rfl ?_
  exact loop_4 _ 0 0 0 rfl (by omega) rfl (Nat.lt_succ_self _)
theorem u_X9_valueAt_9 : ∀ w ∈ u_ws RX9 TX9 20, w ∈ wsX9_valueAt := by decide +kernel
theorem k_X9_valueAt_7 : Cond.fieldLink yX9_valueAt.cls 7 (TX9 0).1 (TX9 0).2.1 (TX9 0).2.2.1 ∈ wsX9_valueAt := by decide +kernel
set_option maxRecDepth 100000 in
set_option maxHeartbeats 4000000 in
theorem c_X9_valueAt (l : Launch) (D : va_G) {ad : Nat → Nat} (cA : Nat → ClassId) (had : adok ad) (M : Mem) (x : Int) (hx : 0 ≤ x ∧ x ≤ 100) (hW : rWR M) : CtI l yX9_valueAt wsX9_valueAt 3 67 D ad cA [.ref (ad 105), .int (zI x)] M (fun z M1 => z = rvl M x ∧ M1 = M) := by
  refine CtI.of (cc := cX9_valueAt) (maxL := 6) (ret := (some .int)) had (by decide) rfl (Nat.le_of_ble_eq_true rfl) ?_
  intro p e s m args below meth c X hm
  show VV p l e { frames := 3, cells := 0, slots := 0, locals := 67 } s m args below meth c 6 D ad cA (Afr ad s.heap.size) 0 0 (QI below args s D ad cA (fun z M1 => z = rvl M x ∧ M1 = M)) M 0 [(0, .ref (ad 105)), (1, .int (zI x))] []
  have h5 := hW.2.1
  refine vv_aload_n X 0 rfl rfl dX9_valueAt_0 ?_
  refine vv_iload_n X 1 rfl rfl dX9_valueAt_1 ?_
  refine vv_callVI (As := [.int (zI x)]) (st := []) (Nf := 20) X 1 (c_X9_actingAt l D cA had M x (by omega) (by assumption)) gX9_valueAt_X9_actingAt rfl (by decide +kernel) ⟨by decide, by decide⟩ (Nat.le_of_ble_eq_true rfl) ⟨by decide, by decide⟩ rfl (by decide) sh_105 rfl rfl dX9_valueAt_2 (fun z2 Mc2 q_2 => ?_)
  obtain ⟨e_z2, g_z2⟩ := q_2
  have g_z2 := g_z2.symm
  subst g_z2
  have hs1 := mk_b (L := rL M) (G := rG M) (x := x) (M 106 1).toNat
  have hs : 0 ≤ z2 ∧ z2 < 32 := by
    rw [e_z2]
    refine ⟨hs1.1, Int.lt_of_lt_of_le hs1.2 ?_⟩
    have : 2 ^ (M 106 1).toNat ≤ 2 ^ 5 := Nat.pow_le_pow_right (by decide) h5
    exact Int.ofNat_le.mpr this
  refine vv_istore_n (lv' := [(2, .int (zI z2)), (0, .ref (ad 105)), (1, .int (zI x))]) X rfl (by decide) rfl dX9_valueAt_5 ?_
  refine vv_iconst (n := 0) X dX9_valueAt_6 ?_
  refine vv_istore_n (lv' := [(3, .int (zI 0)), (2, .int (zI z2)), (0, .ref (ad 105)), (1, .int (zI x))]) X rfl (by decide) rfl dX9_valueAt_7 ?_
  refine vv_iconst (n := 0) X dX9_valueAt_8 ?_
  refine vv_istore (lv' := [(4, .int (zI 0)), (3, .int (zI 0)), (2, .int (zI z2)), (0, .ref (ad 105)), (1, .int (zI x))]) X (by decide) rfl dX9_valueAt_9 ?_
  refine vv_iconst (n := 0) X dX9_valueAt_11 ?_
  refine vv_istore (lv' := [(5, .int (zI 0)), (4, .int (zI 0)), (3, .int (zI 0)), (2, .int (zI z2)), (0, .ref (ad 105)), (1, .int (zI x))]) X (by decide) rfl dX9_valueAt_12 ?_
  have loop_14 : ∀ (n : Nat)  (k : Nat) (a3 : Int) (a4 : Int) (a5 : Int), a5 = (k : Int) → (k : Int) ≤ M 106 1 → a3 = sm (fun r => if ac (rL M) (rG M) x r then rP M r else 0) k → a4 = sm (rB M) k → (M 106 1 - a5).toNat < n → VV p l e { frames := 3, cells := 0, slots := 0, locals := 67 } s m args below meth c 6 D ad cA (Afr ad s.heap.size) 0 0 (QI below args s D ad cA (fun z M1 => z = rvl M x ∧ M1 = M)) M 14 [(0, .ref (ad 105)), (1, .int (zI x)), (2, .int (zI z2)), (3, .int (zI a3)), (4, .int (zI a4)), (5, .int (zI a5))] [] := by
    intro n
    induction n with
    | zero => intro k a3 a4 a5 g5 hk g3 g4 hn; exact absurd hn (Nat.not_lt_zero _)
    | succ n ih_14 =>
      intro k a3 a4 a5 g5 hk g3 g4 hn
      have h6 : a5.toNat = k := by omega
      have hbit : (k : Int) < M 106 1 → z2 / ((2 ^ k : Nat) : Int) % 2 = if ac (rL M) (rG M) x k then 1 else 0 := fun q => by rw [e_z2]; exact mk_bit (by omega)
      have hq0 : 0 ≤ z2 / ((2 ^ k : Nat) : Int) ∧ z2 / ((2 ^ k : Nat) : Int) < 32 := ⟨Int.ediv_nonneg hs.1 (Int.natCast_nonneg _), Int.lt_of_le_of_lt (Int.ediv_le_self _ hs.1) hs.2⟩
      refine vv_iload X 5 rfl dX9_valueAt_14 ?_
      refine vv_aload_n X 0 rfl rfl dX9_valueAt_16 ?_
      refine vv_getr (Nf := 20) (ref := (TX9 0).1) X (by decide) sh_105 rfl 0 (by decide) u_X9_valueAt_9 k_X9_valueAt_7 rfl rfl dX9_valueAt_17 ?_
      refine vv_iconst (n := 1) X dX9_valueAt_20 ?_
      refine vv_iald (z := (M 106 1)) X (by decide) sh_106 (by decide) (by omega) (rfl) dX9_valueAt_21 ?_
      refine vv_icmp_ge (tgt := 67) X (by omega) (by omega) dX9_valueAt_22 (by decide) (fun c_22 => ?_) (fun c_22 => ?_)
      · skip
        have ek : (M 106 1).toNat = k := by omega
        refine vv_iload_n X 3 rfl rfl dX9_valueAt_67 ?_
        refine vv_iload_n X 2 rfl rfl dX9_valueAt_68 ?_
        refine vv_iconst (n := 1) X dX9_valueAt_69 ?_
        refine vv_aload_n X 0 rfl rfl dX9_valueAt_70 ?_
        refine vv_getr (Nf := 20) (ref := (TX9 0).1) X (by decide) sh_105 rfl 0 (by decide) u_X9_valueAt_9 k_X9_valueAt_7 rfl rfl dX9_valueAt_71 ?_
        refine vv_iconst (n := 1) X dX9_valueAt_74 ?_
        refine vv_iald (z := (M 106 1)) X (by decide) sh_106 (by decide) (by omega) (rfl) dX9_valueAt_75 ?_
        refine vv_ishl (a := ((2 ^ k : Nat) : Int)) X (by rw [show M 106 1 = (k : Int) by omega]; exact shl2 k (by omega)) dX9_valueAt_76 ?_
        refine vv_iconst (n := 1) X dX9_valueAt_77 ?_
        refine vv_isub X dX9_valueAt_78 ?_
        refine vv_icmp_ne (tgt := 87) X (by have := Nat.two_pow_pos k; have : 2 ^ k ≤ 2 ^ 5 := Nat.pow_le_pow_right (by decide) (by omega); omega) (by have := Nat.two_pow_pos k; have : 2 ^ k ≤ 2 ^ 5 := Nat.pow_le_pow_right (by decide) (by omega); omega) dX9_valueAt_79 (by decide) (fun c_79 => ?_) (fun c_79 => ?_)
        · skip
          have hall : ¬ alla (rL M) (rG M) x (M 106 1).toNat = true := fun q => by
            have := (mk_all (L := rL M) (G := rG M) (x := x) (M 106 1).toNat).mpr q
            rw [← e_z2, ek] at this
            omega
          refine vv_iconst (n := 0) X dX9_valueAt_87 ?_
          refine vv_iadd X dX9_valueAt_88 ?_
          exact vv_iret X hm (⟨by
            unfold rvl vl
            first
            | (rw [if_pos hall, g3, g4, ek])
            | (rw [if_neg hall, g3, ek]), rfl⟩) dX9_valueAt_89
        · skip
          have hall : alla (rL M) (rG M) x (M 106 1).toNat = true := (mk_all _).mp (by rw [← e_z2, ek]; omega)
          refine vv_iload X 4 rfl dX9_valueAt_82 ?_
          refine vv_goto (tgt := 88) X (by decide) dX9_valueAt_84 ?_
          refine vv_iadd X dX9_valueAt_88 ?_
          exact vv_iret X hm (⟨by
            unfold rvl vl
            first
            | (rw [if_pos hall, g3, g4, ek])
            | (rw [if_neg hall, g3, ek]), rfl⟩) dX9_valueAt_89
      · skip
        refine vv_iload_n X 3 rfl rfl dX9_valueAt_25 ?_
        refine vv_iload_n X 2 rfl rfl dX9_valueAt_26 ?_
        refine vv_iload X 5 rfl dX9_valueAt_27 ?_
        refine vv_ishr (a := (z2 / ((2 ^ k : Nat) : Int))) X (by rw [g5]; exact bit1 z2 hs k (by omega)) dX9_valueAt_29 ?_
        refine vv_iconst (n := 1) X dX9_valueAt_30 ?_
        refine vv_iand (a := (z2 / ((2 ^ k : Nat) : Int) % 2)) X (bit2 _ hq0) dX9_valueAt_31 ?_
        refine vv_iconst (n := 1) X dX9_valueAt_32 ?_
        have hbit := hbit (by omega)
        refine vv_icmp_ne (tgt := 46) X (by omega) (by omega) dX9_valueAt_33 (by decide) (fun c_33 => ?_) (fun c_33 => ?_)
        · skip
          have hac : ¬ ac (rL M) (rG M) x k := fun q => by rw [if_pos q] at hbit; omega
          refine vv_iconst (n := 0) X dX9_valueAt_46 ?_
          skip
          refine vv_iadd X dX9_valueAt_47 ?_
          refine vv_istore_n (lv' := [(3, .int (zI (a3 + 0))), (0, .ref (ad 105)), (1, .int (zI x)), (2, .int (zI z2)), (4, .int (zI a4)), (5, .int (zI a5))]) X rfl (by decide) rfl dX9_valueAt_48 ?_
          refine vv_iload X 4 rfl dX9_valueAt_49 ?_
          refine vv_aload_n X 1 rfl rfl dX9_valueAt_51 ?_
          refine vv_iload X 5 rfl dX9_valueAt_52 ?_
          refine vv_iconst (n := 3) X dX9_valueAt_54 ?_
          refine vv_callVI (As := [.int (zI a5), .int (zI 3)]) (st := [.int (zI a4)]) (Nf := 20) X 2 (c_X9_receiverPart l D cA had M a5 3 (by omega) (by omega)) gX9_valueAt_X9_receiverPart rfl (by decide +kernel) ⟨by decide, by decide⟩ (Nat.le_of_ble_eq_true rfl) ⟨by decide, by decide⟩ rfl (by decide) sh_105 rfl rfl dX9_valueAt_55 (fun z55 Mc55 q_55 => ?_)
          obtain ⟨e_z55, g_z55⟩ := q_55
          have g_z55 := g_z55.symm
          subst g_z55
          have e_p55 : z55 = rB M (k) := by rw [e_z55]; show M 106 _ = M 106 _; congr 1; omega
          refine vv_iadd X dX9_valueAt_58 ?_
          refine vv_istore (lv' := [(4, .int (zI (a4 + z55))), (3, .int (zI (a3 + 0))), (0, .ref (ad 105)), (1, .int (zI x)), (2, .int (zI z2)), (5, .int (zI a5))]) X (by decide) rfl dX9_valueAt_59 ?_
          refine vv_iinc (lv' := [(5, .int (zI (a5 + 1))), (4, .int (zI (a4 + z55))), (3, .int (zI (a3 + 0))), (0, .ref (ad 105)), (1, .int (zI x)), (2, .int (zI z2))]) X 5 rfl (by decide) rfl dX9_valueAt_61 ?_
          refine vv_goto (tgt := 14) X (by decide) dX9_valueAt_64 ?_
          refine vv_sub (lv' := [(0, .ref (ad 105)), (1, .int (zI x)), (2, .int (zI z2)), (3, .int (zI (a3 + 0))), (4, .int (zI (a4 + z55))), (5, .int (zI (a5 + 1)))]) [3, 4, 5, 2, 1, 0] rfl ?_
          exact ih_14 (k + 1) (a3 + 0) (a4 + z55) (a5 + 1) (by omega) (by omega) (by simp only [sm]; first | (rw [if_pos hac, g3, e_p40]) | (rw [if_neg hac, g3])) (by simp only [sm]; rw [g4, e_p55]) (by omega)
        · skip
          have hac : ac (rL M) (rG M) x k := Classical.byContradiction fun q => by rw [if_neg q] at hbit; omega
          refine vv_aload_n X 0 rfl rfl dX9_valueAt_36 ?_
          refine vv_iload X 5 rfl dX9_valueAt_37 ?_
          refine vv_iconst (n := 2) X dX9_valueAt_39 ?_
          refine vv_callVI (As := [.int (zI a5), .int (zI 2)]) (st := [.int (zI a3)]) (Nf := 20) X 2 (c_X9_receiverPart l D cA had M a5 2 (by omega) (by omega)) gX9_valueAt_X9_receiverPart rfl (by decide +kernel) ⟨by decide, by decide⟩ (Nat.le_of_ble_eq_true rfl) ⟨by decide, by decide⟩ rfl (by decide) sh_105 rfl rfl dX9_valueAt_40 (fun z40 Mc40 q_40 => ?_)
          obtain ⟨e_z40, g_z40⟩ := q_40
          have g_z40 := g_z40.symm
          subst g_z40
          refine vv_goto (tgt := 47) X (by decide) dX9_valueAt_43 ?_
          have e_p40 : z40 = rP M (k) := by rw [e_z40]; show M 106 _ = M 106 _; congr 1; omega
          refine vv_iadd X dX9_valueAt_47 ?_
          refine vv_istore_n (lv' := [(3, .int (zI (a3 + z40))), (0, .ref (ad 105)), (1, .int (zI x)), (2, .int (zI z2)), (4, .int (zI a4)), (5, .int (zI a5))]) X rfl (by decide) rfl dX9_valueAt_48 ?_
          refine vv_iload X 4 rfl dX9_valueAt_49 ?_
          refine vv_aload_n X 1 rfl rfl dX9_valueAt_51 ?_
          refine vv_iload X 5 rfl dX9_valueAt_52 ?_
          refine vv_iconst (n := 3) X dX9_valueAt_54 ?_
          refine vv_callVI (As := [.int (zI a5), .int (zI 3)]) (st := [.int (zI a4)]) (Nf := 20) X 2 (c_X9_receiverPart l D cA had M a5 3 (by omega) (by omega)) gX9_valueAt_X9_receiverPart rfl (by decide +kernel) ⟨by decide, by decide⟩ (Nat.le_of_ble_eq_true rfl) ⟨by decide, by decide⟩ rfl (by decide) sh_105 rfl rfl dX9_valueAt_55 (fun z55 Mc55 q_55 => ?_)
          obtain ⟨e_z55, g_z55⟩ := q_55
          have g_z55 := g_z55.symm
          subst g_z55
          have e_p55 : z55 = rB M (k) := by rw [e_z55]; show M 106 _ = M 106 _; congr 1; omega
          refine vv_iadd X dX9_valueAt_58 ?_
          refine vv_istore (lv' := [(4, .int (zI (a4 + z55))), (3, .int (zI (a3 + z40))), (0, .ref (ad 105)), (1, .int (zI x)), (2, .int (zI z2)), (5, .int (zI a5))]) X (by decide) rfl dX9_valueAt_59 ?_
          refine vv_iinc (lv' := [(5, .int (zI (a5 + 1))), (4, .int (zI (a4 + z55))), (3, .int (zI (a3 + z40))), (0, .ref (ad 105)), (1, .int (zI x)), (2, .int (zI z2))]) X 5 rfl (by decide) rfl dX9_valueAt_61 ?_
          refine vv_goto (tgt := 14) X (by decide) dX9_valueAt_64 ?_
          refine vv_sub (lv' := [(0, .ref (ad 105)), (1, .int (zI x)), (2, .int (zI z2)), (3, .int (zI (a3 + z40))), (4, .int (zI (a4 + z55))), (5, .int (zI (a5 + 1)))]) [3, 4, 5, 2, 1, 0] rfl ?_
          exact ih_14 (k + 1) (a3 + z40) (a4 + z55) (a5 + 1) (by omega) (by omega) (by simp only [sm]; first | (rw [if_pos hac, g3, e_p40]) | (rw [if_neg hac, g3])) (by simp only [sm]; rw [g4, e_p55]) (by omega)
  refine vv_sub (lv' := [(0, .ref (ad 105)), (1, .int (zI x)), (2, .int (zI z2)), (3, .int (zI 0)), (4, .int (zI 0)), (5, .int (zI 0))]) [4, 5, 3, 2, 1, 0] rfl ?_
  exact loop_14 _ 0 0 0 0 rfl (by omega) rfl rfl (Nat.lt_succ_self _)
