set_option maxRecDepth 100000 in
set_option maxHeartbeats 4000000 in
theorem same_A {p : Program} {l : Launch} {e : Env} {s : State} {m : MethodId} {args : Array Value} {below : List Frame} {meth : Method} {c : Code} {D : va_G} {ad : Nat → Nat} {cA : Nat → ClassId} (X : Cx p s m args c cL_same yL_same.cls 17 wsL_same D ad cA (Afr ad s.heap.size)) (hm : Mt meth (some .boolean)) {x : Int} (M : Mem) (hR : RLL M) (nx : ∀ (N : Mem) (a7 a8 : Int), eqx M N E9 → a7 = mnT (vL M) → a8 = mnS (vL M) → VV p l e { frames := 6, cells := 0, slots := 0, locals := 133 } s m args below meth c 17 D ad cA (Afr ad s.heap.size) 0 0 (QI below args s D ad cA (fun z M1 => z = 1 ∧ eqx M M1 E9)) N 130 [(0, .ref (ad 90)), (1, .int (zI x)), (2, .ref (ad 105)), (3, .ref (ad 106)), (4, .ref (ad 107)), (5, .ref (ad 108)), (6, .ref (ad 109)), (7, .int (zI a7)), (8, .int (zI a8))] []) : VV p l e { frames := 6, cells := 0, slots := 0, locals := 133 } s m args below meth c 17 D ad cA (Afr ad s.heap.size) 0 0 (QI below args s D ad cA (fun z M1 => z = 1 ∧ eqx M M1 E9)) M 0 [(0, .ref (ad 90)), (1, .int (zI x)), (2, .ref (ad 105)), (3, .ref (ad 106)), (4, .ref (ad 107)), (5, .ref (ad 108)), (6, .ref (ad 109))] [] := by
  have had := X.2.2.2.1
  have hwl := RLL_wl hR
  have hW : rWR M := hwl.2.1
  have h5 := hW.2.1
  have h50 := hW.1
  have hsm : 1 ≤ M 105 2 ∧ M 105 2 ≤ 6 := WFs_pos hwl.2.2
  have hwb : ∀ k : Nat, (k : Int) < M 105 2 → (1 ≤ M 107 k ∧ M 107 k ≤ 999) ∧ (0 ≤ M 108 k ∧ M 108 k ≤ 100) := fun k hk => WFs_b hwl.2.2 hk
  have hp9 : 1 ≤ M 105 0 ∧ M 105 0 ≤ 99 := hwl.1
  have hvb : ∀ y : Int, -495 ≤ rvl M y ∧ rvl M y ≤ 990 := fun y => vl_b hW.2
  refine vv_iconst (n := 0) X dL_same_0 ?_
  refine vv_istore (lv' := [(7, .int (zI 0)), (0, .ref (ad 90)), (1, .int (zI x)), (2, .ref (ad 105)), (3, .ref (ad 106)), (4, .ref (ad 107)), (5, .ref (ad 108)), (6, .ref (ad 109))]) X (by decide) rfl dL_same_1 ?_
  refine vv_iconst (n := 0) X dL_same_3 ?_
  refine vv_istore (lv' := [(8, .int (zI 0)), (7, .int (zI 0)), (0, .ref (ad 90)), (1, .int (zI x)), (2, .ref (ad 105)), (3, .ref (ad 106)), (4, .ref (ad 107)), (5, .ref (ad 108)), (6, .ref (ad 109))]) X (by decide) rfl dL_same_4 ?_
  refine vv_iconst (n := 0) X dL_same_6 ?_
  refine vv_istore (lv' := [(9, .int (zI 0)), (8, .int (zI 0)), (7, .int (zI 0)), (0, .ref (ad 90)), (1, .int (zI x)), (2, .ref (ad 105)), (3, .ref (ad 106)), (4, .ref (ad 107)), (5, .ref (ad 108)), (6, .ref (ad 109))]) X (by decide) rfl dL_same_7 ?_
  have loop_9 : ∀ (n : Nat) (M_9 : Mem) (k : Nat) (a7 : Int) (a8 : Int) (a9 : Int), a9 = (k : Int) → (k : Int) ≤ M 105 2 → a7 = sm (M 107) k → a8 = sm (fun i => M 107 i * rvl M (M 108 i)) k → eqx M M_9 E9 → (M 105 2 - a9).toNat < n → VV p l e { frames := 6, cells := 0, slots := 0, locals := 133 } s m args below meth c 17 D ad cA (Afr ad s.heap.size) 0 0 (QI below args s D ad cA (fun z M1 => z = 1 ∧ eqx M M1 E9)) M_9 9 [(0, .ref (ad 90)), (1, .int (zI x)), (2, .ref (ad 105)), (3, .ref (ad 106)), (4, .ref (ad 107)), (5, .ref (ad 108)), (6, .ref (ad 109)), (7, .int (zI a7)), (8, .int (zI a8)), (9, .int (zI a9))] [] := by
    intro n
    induction n with
    | zero => intro M_9 k a7 a8 a9 h9 hk h7 h8 hE9 hn; exact absurd hn (Nat.not_lt_zero _)
    | succ n ih_9 =>
      intro M_9 k a7 a8 a9 h9 hk h7 h8 hE9 hn
      have e_9_105 : M_9 105 = M 105 := hE9 105 (by decide)
      have e_9_106 : M_9 106 = M 106 := hE9 106 (by decide)
      have e_9_107 : M_9 107 = M 107 := hE9 107 (by decide)
      have e_9_108 : M_9 108 = M 108 := hE9 108 (by decide)
      have i9 : a9.toNat = k := by omega
      have hwk : (k : Int) < M 105 2 → (1 ≤ M 107 k ∧ M 107 k ≤ 999) ∧ (0 ≤ M 108 k ∧ M 108 k ≤ 100) := hwb k
      have hW9 := W_E9 hW hE9
      refine vv_iload X 9 rfl dL_same_9 ?_
      refine vv_aload_n X 2 rfl rfl dL_same_11 ?_
      refine vv_iconst (n := 2) X dL_same_12 ?_
      refine vv_iald (z := (M 105 2)) X (by decide) sh_105 (by decide) (by omega) (show M_9 105 2 = M 105 2 from by rw [e_9_105]) dL_same_13 ?_
      refine vv_icmp_ge (tgt := 130) X (by omega) (by omega) dL_same_14 (by decide) (fun c_14 => ?_) (fun c_14 => ?_)
      · skip
        have ek : (M 105 2).toNat = k := by omega
        have e7 : a7 = mnT (vL M) := by rw [h7, ← ek]; rfl
        have e8 : a8 = mnS (vL M) := by rw [h8, ← ek]; rfl
        refine vv_sub (lv' := [(0, .ref (ad 90)), (1, .int (zI x)), (2, .ref (ad 105)), (3, .ref (ad 106)), (4, .ref (ad 107)), (5, .ref (ad 108)), (6, .ref (ad 109)), (7, .int (zI a7)), (8, .int (zI a8))]) [0, 1, 2, 3, 4, 5, 6, 7, 8] rfl ?_
        exact nx M_9 a7 a8 hE9 e7 e8
      · skip
        refine vv_iload X 7 rfl dL_same_17 ?_
        refine vv_aload X 4 rfl dL_same_19 ?_
        refine vv_iload X 9 rfl dL_same_21 ?_
        refine vv_iald (z := (M 107 k)) X (by decide) sh_107 (by decide) (by omega) (by first | (rw [i9]; done) | (rw [i9]; exact (show M_9 107 k = M 107 k from by rw [e_9_107]))) dL_same_23 ?_
        refine vv_iadd X dL_same_24 ?_
        refine vv_istore (lv' := [(7, .int (zI (a7 + (M 107 k)))), (0, .ref (ad 90)), (1, .int (zI x)), (2, .ref (ad 105)), (3, .ref (ad 106)), (4, .ref (ad 107)), (5, .ref (ad 108)), (6, .ref (ad 109)), (8, .int (zI a8)), (9, .int (zI a9))]) X (by decide) rfl dL_same_25 ?_
        refine vv_iload X 8 rfl dL_same_27 ?_
        refine vv_aload X 5 rfl dL_same_29 ?_
        refine vv_iload X 9 rfl dL_same_31 ?_
        refine vv_iald (z := (M 107 k)) X (by decide) sh_107 (by decide) (by omega) (by first | (rw [i9]; done) | (rw [i9]; exact (show M_9 107 k = M 107 k from by rw [e_9_107]))) dL_same_33 ?_
        refine vv_aload X 6 rfl dL_same_34 ?_
        refine vv_iload X 9 rfl dL_same_36 ?_
        refine vv_iald (z := (M 108 k)) X (by decide) sh_108 (by decide) (by omega) (by first | (rw [i9]; done) | (rw [i9]; exact (show M_9 108 k = M 108 k from by rw [e_9_108]))) dL_same_38 ?_
        refine vv_aload_n X 3 rfl rfl dL_same_39 ?_
        refine vv_aload_n X 4 rfl rfl dL_same_40 ?_
        refine vv_callSI (As := [.int (zI (M 108 k)), .ref (ad 105), .ref (ad 106)]) (st := [.int (zI (M 107 k)), .int (zI a8)]) X 3 (c_L_value l D cA had M_9 (M 108 k) (by have := hwk (by omega); omega) (hW9)) gL_same_L_value rfl (by decide +kernel) ⟨by decide, by decide⟩ (Nat.le_of_ble_eq_true rfl) ⟨by decide, by decide⟩ rfl rfl dL_same_41 (fun z41 Mc41 q_41 => ?_)
        obtain ⟨e_z41, g_z41⟩ := q_41
        have g_z41 := g_z41.symm
        subst g_z41
        rw [rvl_E9 hE9] at e_z41
        refine vv_imul X dL_same_44 ?_
        refine vv_iadd X dL_same_45 ?_
        refine vv_istore (lv' := [(8, .int (zI (a8 + ((M 107 k) * z41)))), (7, .int (zI (a7 + (M 107 k)))), (0, .ref (ad 90)), (1, .int (zI x)), (2, .ref (ad 105)), (3, .ref (ad 106)), (4, .ref (ad 107)), (5, .ref (ad 108)), (6, .ref (ad 109)), (9, .int (zI a9))]) X (by decide) rfl dL_same_46 ?_
        refine vv_aload_n X 2 rfl rfl dL_same_48 ?_
        refine vv_iload X 9 rfl dL_same_49 ?_
        refine vv_iconst (n := 0) X dL_same_51 ?_
        refine vv_callVI (As := [.int (zI a9), .int (zI 0)]) (st := []) (Nf := 9) X 2 (c_X8_part l D cA had M_9 a9 0 (by omega) (by omega) (RLL_q hR hE9).2.1) gL_same_X8_part rfl (by decide +kernel) ⟨by decide, by decide⟩ (Nat.le_of_ble_eq_true rfl) ⟨by decide, by decide⟩ rfl (by decide) sh_90 rfl rfl dL_same_52 (fun z52 Mc52 q_52 => ?_)
        obtain ⟨Q52, F52⟩ := q_52
        have E52 : eqx M Mc52 E9 := eqx_tr hE9 (eqx_mono F52 (by decide))
        have e_z52 : z52 = M 107 k := by
          have q := S_part0 hR hE9 (by omega) Q52
          rw [i9] at q
          exact q
        refine vv_aload X 6 rfl dL_same_55 ?_
        refine vv_iload X 9 rfl dL_same_57 ?_
        refine vv_iald (z := (M 107 k)) X (by decide) sh_107 (by decide) (by omega) (by first | (rw [i9]; done) | (rw [i9]; exact (show Mc52 107 k = M 107 k from by rw [(E52 107 (by decide))]))) dL_same_59 ?_
        refine vv_icmp_ne (tgt := 122) X (by have := hwk (by omega); omega) (by have := hwk (by omega); omega) dL_same_60 (by decide) (fun c_60 => ?_) (fun c_60 => ?_)
        · skip
          omega
        · skip
          refine vv_aload_n X 2 rfl rfl dL_same_63 ?_
          refine vv_iload X 9 rfl dL_same_64 ?_
          refine vv_iconst (n := 1) X dL_same_66 ?_
          refine vv_callVI (As := [.int (zI a9), .int (zI 1)]) (st := []) (Nf := 9) X 2 (c_X8_part l D cA had Mc52 a9 1 (by omega) (by omega) (RLL_q hR E52).2.1) gL_same_X8_part rfl (by decide +kernel) ⟨by decide, by decide⟩ (Nat.le_of_ble_eq_true rfl) ⟨by decide, by decide⟩ rfl (by decide) sh_90 rfl rfl dL_same_67 (fun z67 Mc67 q_67 => ?_)
          obtain ⟨Q67, F67⟩ := q_67
          have E67 : eqx M Mc67 E9 := eqx_tr E52 (eqx_mono F67 (by decide))
          have e_z67 : z67 = M 108 k := by
            have q := S_part1 hR E52 (by omega) Q67
            rw [i9] at q
            exact q
          refine vv_aload X 7 rfl dL_same_70 ?_
          refine vv_iload X 9 rfl dL_same_72 ?_
          refine vv_iald (z := (M 108 k)) X (by decide) sh_108 (by decide) (by omega) (by first | (rw [i9]; done) | (rw [i9]; exact (show Mc67 108 k = M 108 k from by rw [(E67 108 (by decide))]))) dL_same_74 ?_
          refine vv_icmp_ne (tgt := 122) X (by have := hwk (by omega); omega) (by have := hwk (by omega); omega) dL_same_75 (by decide) (fun c_75 => ?_) (fun c_75 => ?_)
          · skip
            omega
          · skip
            refine vv_aload_n X 2 rfl rfl dL_same_78 ?_
            refine vv_iload X 9 rfl dL_same_79 ?_
            refine vv_iconst (n := 2) X dL_same_81 ?_
            refine vv_callVI (As := [.int (zI a9), .int (zI 2)]) (st := []) (Nf := 9) X 2 (c_X8_part l D cA had Mc67 a9 2 (by omega) (by omega) (RLL_q hR E67).2.1) gL_same_X8_part rfl (by decide +kernel) ⟨by decide, by decide⟩ (Nat.le_of_ble_eq_true rfl) ⟨by decide, by decide⟩ rfl (by decide) sh_90 rfl rfl dL_same_82 (fun z82 Mc82 q_82 => ?_)
            obtain ⟨Q82, F82⟩ := q_82
            have E82 : eqx M Mc82 E9 := eqx_tr E67 (eqx_mono F82 (by decide))
            have e_z82 : z82 = mk (rL M) (rG M) (M 108 k) (M 105 1).toNat := by
              have q := S_part2 hR E67 (by omega) Q82
              rw [i9] at q
              exact q
            refine vv_aload X 7 rfl dL_same_85 ?_
            refine vv_iload X 9 rfl dL_same_87 ?_
            refine vv_iald (z := (M 108 k)) X (by decide) sh_108 (by decide) (by omega) (by first | (rw [i9]; done) | (rw [i9]; exact (show Mc82 108 k = M 108 k from by rw [(E82 108 (by decide))]))) dL_same_89 ?_
            refine vv_aload_n X 4 rfl rfl dL_same_90 ?_
            refine vv_aload_n X 5 rfl rfl dL_same_91 ?_
            refine vv_callSI (As := [.int (zI (M 108 k)), .ref (ad 105), .ref (ad 106)]) (st := [.int (zI z82)]) X 3 (c_L_acting l D cA had Mc82 (M 108 k) (by have := hwk (by omega); omega) (W_E9 hW E82)) gL_same_L_acting rfl (by decide +kernel) ⟨by decide, by decide⟩ (Nat.le_of_ble_eq_true rfl) ⟨by decide, by decide⟩ rfl rfl dL_same_92 (fun z92 Mc92 q_92 => ?_)
            obtain ⟨e_z92, g_z92⟩ := q_92
            have g_z92 := g_z92.symm
            subst g_z92
            rw [mk_E9 E82] at e_z92
            have mb9 := mk_32 (L := rL M) (G := rG M) (x := M 108 k) (m := (M 105 1).toNat) h5
            refine vv_icmp_ne (tgt := 122) X (by omega) (by omega) dL_same_95 (by decide) (fun c_95 => ?_) (fun c_95 => ?_)
            · skip
              omega
            · skip
              refine vv_aload_n X 2 rfl rfl dL_same_98 ?_
              refine vv_iload X 9 rfl dL_same_99 ?_
              refine vv_iconst (n := 3) X dL_same_101 ?_
              refine vv_callVI (As := [.int (zI a9), .int (zI 3)]) (st := []) (Nf := 9) X 2 (c_X8_part l D cA had Mc82 a9 3 (by omega) (by omega) (RLL_q hR E82).2.1) gL_same_X8_part rfl (by decide +kernel) ⟨by decide, by decide⟩ (Nat.le_of_ble_eq_true rfl) ⟨by decide, by decide⟩ rfl (by decide) sh_90 rfl rfl dL_same_102 (fun z102 Mc102 q_102 => ?_)
              obtain ⟨Q102, F102⟩ := q_102
              have E102 : eqx M Mc102 E9 := eqx_tr E82 (eqx_mono F102 (by decide))
              have e_z102 : z102 = rvl M (M 108 k) + 1000 := by
                have q := S_part3 hR E82 (by omega) Q102
                rw [i9] at q
                exact q
              refine vv_aload X 7 rfl dL_same_105 ?_
              refine vv_iload X 9 rfl dL_same_107 ?_
              refine vv_iald (z := (M 108 k)) X (by decide) sh_108 (by decide) (by omega) (by first | (rw [i9]; done) | (rw [i9]; exact (show Mc102 108 k = M 108 k from by rw [(E102 108 (by decide))]))) dL_same_109 ?_
              refine vv_aload_n X 4 rfl rfl dL_same_110 ?_
              refine vv_aload_n X 5 rfl rfl dL_same_111 ?_
              refine vv_callSI (As := [.int (zI (M 108 k)), .ref (ad 105), .ref (ad 106)]) (st := [.int (zI z102)]) X 3 (c_L_value l D cA had Mc102 (M 108 k) (by have := hwk (by omega); omega) (W_E9 hW E102)) gL_same_L_value rfl (by decide +kernel) ⟨by decide, by decide⟩ (Nat.le_of_ble_eq_true rfl) ⟨by decide, by decide⟩ rfl rfl dL_same_112 (fun z112 Mc112 q_112 => ?_)
              obtain ⟨e_z112, g_z112⟩ := q_112
              have g_z112 := g_z112.symm
              subst g_z112
              rw [rvl_E9 E102] at e_z112
              have rb9 := hvb (M 108 k)
              refine vv_sipush (n := 1000) X (by decide) dL_same_115 ?_
              refine vv_iadd X dL_same_118 ?_
              refine vv_icmp_eq (tgt := 124) X (by omega) (by omega) dL_same_119 (by decide) (fun c_119 => ?_) (fun c_119 => ?_)
              · skip
                refine vv_iinc (lv' := [(9, .int (zI (a9 + 1))), (8, .int (zI (a8 + ((M 107 k) * z41)))), (7, .int (zI (a7 + (M 107 k)))), (0, .ref (ad 90)), (1, .int (zI x)), (2, .ref (ad 105)), (3, .ref (ad 106)), (4, .ref (ad 107)), (5, .ref (ad 108)), (6, .ref (ad 109))]) X 9 rfl (by decide) rfl dL_same_124 ?_
                refine vv_goto (tgt := 9) X (by decide) dL_same_127 ?_
                refine vv_sub (lv' := [(0, .ref (ad 90)), (1, .int (zI x)), (2, .ref (ad 105)), (3, .ref (ad 106)), (4, .ref (ad 107)), (5, .ref (ad 108)), (6, .ref (ad 109)), (7, .int (zI (a7 + (M 107 k)))), (8, .int (zI (a8 + ((M 107 k) * z41)))), (9, .int (zI (a9 + 1)))]) [3, 4, 5, 6, 7, 8, 9, 2, 1, 0] rfl ?_
                exact ih_9 Mc102 (k + 1) (a7 + (M 107 k)) (a8 + ((M 107 k) * z41)) (a9 + 1) (by omega) (by omega) (by rw [h7]; rfl) (by rw [h8, e_z41]; rfl) E102 (by omega)
              · skip
                omega
  refine vv_sub (lv' := [(0, .ref (ad 90)), (1, .int (zI x)), (2, .ref (ad 105)), (3, .ref (ad 106)), (4, .ref (ad 107)), (5, .ref (ad 108)), (6, .ref (ad 109)), (7, .int (zI 0)), (8, .int (zI 0)), (9, .int (zI 0))]) [3, 4, 5, 6, 7, 8, 9, 2, 1, 0] rfl ?_
  exact loop_9 _ M 0 0 0 0 rfl (by omega) rfl rfl (eqx_rf _ _) (Nat.lt_succ_self _)
set_option maxRecDepth 100000 in
set_option maxHeartbeats 4000000 in
theorem same_B1 {p : Program} {l : Launch} {e : Env} {s : State} {m : MethodId} {args : Array Value} {below : List Frame} {meth : Method} {c : Code} {D : va_G} {ad : Nat → Nat} {cA : Nat → ClassId} (X : Cx p s m args c cL_same yL_same.cls 17 wsL_same D ad cA (Afr ad s.heap.size)) (hm : Mt meth (some .boolean)) {x a7 a8 r9 b10 f11 : Int} {r : Nat} (M Ms : Mem) (hR : RLL M) (hs : eqx M Ms E9) (g9 : r9 = (r : Int)) (gr : (r : Int) < M 105 1) (e7 : a7 = mnT (vL M)) (e10 : b10 = woS (vL M) r) (wb10 : 0 ≤ b10 ∧ b10 ≤ 100000000) (hf : 0 ≤ f11 ∧ f11 ≤ 100) (hya : ac (rL M) (rG M) f11 r) (hfy : ∀ y : Int, 0 ≤ y → y < f11 → ¬ ac (rL M) (rG M) y r) (nx : ∀ N : Mem, eqx M N E9 → VV p l e { frames := 6, cells := 0, slots := 0, locals := 133 } s m args below meth c 17 D ad cA (Afr ad s.heap.size) 0 0 (QI below args s D ad cA (fun z M1 => z = 1 ∧ eqx M M1 E9)) N 366 [(0, .ref (ad 90)), (1, .int (zI x)), (2, .ref (ad 105)), (3, .ref (ad 106)), (4, .ref (ad 107)), (5, .ref (ad 108)), (6, .ref (ad 109)), (7, .int (zI a7)), (8, .int (zI a8)), (9, .int (zI r9))] []) : VV p l e { frames := 6, cells := 0, slots := 0, locals := 133 } s m args below meth c 17 D ad cA (Afr ad s.heap.size) 0 0 (QI below args s D ad cA (fun z M1 => z = 1 ∧ eqx M M1 E9)) Ms 239 [(0, .ref (ad 90)), (1, .int (zI x)), (2, .ref (ad 105)), (3, .ref (ad 106)), (4, .ref (ad 107)), (5, .ref (ad 108)), (6, .ref (ad 109)), (7, .int (zI a7)), (8, .int (zI a8)), (9, .int (zI r9)), (10, .int (zI b10)), (11, .int (zI f11))] [] := by
  have had := X.2.2.2.1
  have hwl := RLL_wl hR
  have hW : rWR M := hwl.2.1
  have h5 := hW.2.1
  have h50 := hW.1
  have hsm : 1 ≤ M 105 2 ∧ M 105 2 ≤ 6 := WFs_pos hwl.2.2
  have hwb : ∀ k : Nat, (k : Int) < M 105 2 → (1 ≤ M 107 k ∧ M 107 k ≤ 999) ∧ (0 ≤ M 108 k ∧ M 108 k ≤ 100) := fun k hk => WFs_b hwl.2.2 hk
  have hp9 : 1 ≤ M 105 0 ∧ M 105 0 ≤ 99 := hwl.1
  have hvb : ∀ y : Int, -495 ≤ rvl M y ∧ rvl M y ≤ 990 := fun y => vl_b hW.2
  have hT := mnT_b hwl
  rw [← e7] at hT
  have e100 : 100 * a7 = mnT (vL M) * 100 := by rw [← e7]; omega
  have i91 : r9.toNat = r := by omega
  have j0 : (4 * r9).toNat = 4 * r := by omega
  have j1 : (4 * r9 + 1).toNat = 4 * r + 1 := by omega
  have j2 : (4 * r9 + 2).toNat = 4 * r + 2 := by omega
  have j3 : (4 * r9 + 3).toNat = 4 * r + 3 := by omega
  have hw8 : (1 ≤ M 106 (4 * r) ∧ M 106 (4 * r) ≤ 99) ∧ (1 ≤ M 106 (4 * r + 1) ∧ M 106 (4 * r + 1) ≤ 99) ∧ (0 ≤ M 106 (4 * r + 2) ∧ M 106 (4 * r + 2) ≤ 99) ∧ (-99 ≤ M 106 (4 * r + 3) ∧ M 106 (4 * r + 3) ≤ 99) := hW.2.2 r (by omega)
  refine vv_iload X 10 rfl dL_same_239 ?_
  refine vv_bipush (n := 100) X (by decide) dL_same_241 ?_
  refine vv_iload X 7 rfl dL_same_243 ?_
  refine vv_imul X dL_same_245 ?_
  refine vv_aload X 6 rfl dL_same_246 ?_
  refine vv_callSV (As := [.int (zI b10), .int (zI (100 * a7)), .ref (ad 109)]) (st := []) X 3 (c_L_least l D cA had Ms b10 (100 * a7) (by omega) (by omega) (by omega)) gL_same_L_least rfl (by decide +kernel) ⟨by decide, by decide⟩ (Nat.le_of_ble_eq_true rfl) ⟨by decide, by decide⟩ rfl rfl dL_same_248 (fun Mc248 q_248 => ?_)
  have q_248 := q_248.symm
  subst q_248
  obtain ⟨N251, h_N251⟩ : ∃ N : Mem, N = (up2 (up2 Ms 109 0 (frA b10 (100 * a7))) 109 1 (frB b10 (100 * a7))) := ⟨_, rfl⟩
  rw [← h_N251]
  have EN251 : eqx M N251 E9 := by rw [h_N251]; exact eqx_up _ _ (eqx_up _ _ hs (by decide)) (by decide)
  have f251a : N251 109 0 = frA (woS (vL M) r) (mnT (vL M) * 100) := by rw [h_N251, ← e10, ← e100]; rfl
  have f251b : N251 109 1 = frB (woS (vL M) r) (mnT (vL M) * 100) := by rw [h_N251, ← e10, ← e100]; rfl
  have hfw := fr_b2 (a := woS (vL M) r) (b := mnT (vL M) * 100) (A := 1073741824) (by omega) (by omega)
  refine vv_aload_n X 0 rfl rfl dL_same_251 ?_
  refine vv_iload X 9 rfl dL_same_252 ?_
  refine vv_iconst (n := 0) X dL_same_254 ?_
  refine vv_callVI (As := [.int (zI r9), .int (zI 0)]) (st := []) (Nf := 9) X 2 (c_X8_receiver l D cA had N251 r9 0 (by omega) (by omega) (RLL_q hR EN251).2.1) gL_same_X8_receiver rfl (by decide +kernel) ⟨by decide, by decide⟩ (Nat.le_of_ble_eq_true rfl) ⟨by decide, by decide⟩ rfl (by decide) sh_90 rfl rfl dL_same_255 (fun z255 Mc255 q_255 => ?_)
  obtain ⟨Q255, F255⟩ := q_255
  have E255 : eqx M Mc255 E9 := eqx_tr EN251 (eqx_mono F255 (by decide))
  have e_z255 : z255 = M 106 (4 * r) := by
    have q := S_rec0 hR EN251 (by omega) Q255
    rw [i91] at q
    exact q
  refine vv_aload_n X 3 rfl rfl dL_same_258 ?_
  refine vv_iconst (n := 4) X dL_same_259 ?_
  refine vv_iload X 9 rfl dL_same_260 ?_
  refine vv_imul X dL_same_262 ?_
  refine vv_iald (z := (M 106 (4 * r))) X (by decide) sh_106 (by decide) (by omega) (by first | (rw [j0]; done) | (rw [j0]; exact (show Mc255 106 (4 * r) = M 106 (4 * r) from by rw [(E255 106 (by decide))]))) dL_same_263 ?_
  refine vv_icmp_ne (tgt := 364) X (by omega) (by omega) dL_same_264 (by decide) (fun c_264 => ?_) (fun c_264 => ?_)
  · skip
    omega
  · skip
    refine vv_aload_n X 0 rfl rfl dL_same_267 ?_
    refine vv_iload X 9 rfl dL_same_268 ?_
    refine vv_iconst (n := 1) X dL_same_270 ?_
    refine vv_callVI (As := [.int (zI r9), .int (zI 1)]) (st := []) (Nf := 9) X 2 (c_X8_receiver l D cA had Mc255 r9 1 (by omega) (by omega) (RLL_q hR E255).2.1) gL_same_X8_receiver rfl (by decide +kernel) ⟨by decide, by decide⟩ (Nat.le_of_ble_eq_true rfl) ⟨by decide, by decide⟩ rfl (by decide) sh_90 rfl rfl dL_same_271 (fun z271 Mc271 q_271 => ?_)
    obtain ⟨Q271, F271⟩ := q_271
    have E271 : eqx M Mc271 E9 := eqx_tr E255 (eqx_mono F271 (by decide))
    have e_z271 : z271 = M 106 (4 * r + 1) := by
      have q := S_rec1 hR E255 (by omega) Q271
      rw [i91] at q
      exact q
    refine vv_aload_n X 3 rfl rfl dL_same_274 ?_
    refine vv_iconst (n := 4) X dL_same_275 ?_
    refine vv_iload X 9 rfl dL_same_276 ?_
    refine vv_imul X dL_same_278 ?_
    refine vv_iconst (n := 1) X dL_same_279 ?_
    refine vv_iadd X dL_same_280 ?_
    refine vv_iald (z := (M 106 (4 * r + 1))) X (by decide) sh_106 (by decide) (by omega) (by first | (rw [j1]; done) | (rw [j1]; exact (show Mc271 106 (4 * r + 1) = M 106 (4 * r + 1) from by rw [(E271 106 (by decide))]))) dL_same_281 ?_
    refine vv_icmp_ne (tgt := 364) X (by omega) (by omega) dL_same_282 (by decide) (fun c_282 => ?_) (fun c_282 => ?_)
    · skip
      omega
    · skip
      refine vv_aload_n X 0 rfl rfl dL_same_285 ?_
      refine vv_iload X 9 rfl dL_same_286 ?_
      refine vv_iconst (n := 2) X dL_same_288 ?_
      refine vv_callVI (As := [.int (zI r9), .int (zI 2)]) (st := []) (Nf := 9) X 2 (c_X8_receiver l D cA had Mc271 r9 2 (by omega) (by omega) (RLL_q hR E271).2.1) gL_same_X8_receiver rfl (by decide +kernel) ⟨by decide, by decide⟩ (Nat.le_of_ble_eq_true rfl) ⟨by decide, by decide⟩ rfl (by decide) sh_90 rfl rfl dL_same_289 (fun z289 Mc289 q_289 => ?_)
      obtain ⟨Q289, F289⟩ := q_289
      have E289 : eqx M Mc289 E9 := eqx_tr E271 (eqx_mono F289 (by decide))
      have e_z289 : z289 = M 106 (4 * r + 2) := by
        have q := S_rec2 hR E271 (by omega) Q289
        rw [i91] at q
        exact q
      refine vv_aload_n X 3 rfl rfl dL_same_292 ?_
      refine vv_iconst (n := 4) X dL_same_293 ?_
      refine vv_iload X 9 rfl dL_same_294 ?_
      refine vv_imul X dL_same_296 ?_
      refine vv_iconst (n := 2) X dL_same_297 ?_
      refine vv_iadd X dL_same_298 ?_
      refine vv_iald (z := (M 106 (4 * r + 2))) X (by decide) sh_106 (by decide) (by omega) (by first | (rw [j2]; done) | (rw [j2]; exact (show Mc289 106 (4 * r + 2) = M 106 (4 * r + 2) from by rw [(E289 106 (by decide))]))) dL_same_299 ?_
      refine vv_icmp_ne (tgt := 364) X (by omega) (by omega) dL_same_300 (by decide) (fun c_300 => ?_) (fun c_300 => ?_)
      · skip
        omega
      · skip
        refine vv_aload_n X 0 rfl rfl dL_same_303 ?_
        refine vv_iload X 9 rfl dL_same_304 ?_
        refine vv_iconst (n := 3) X dL_same_306 ?_
        refine vv_callVI (As := [.int (zI r9), .int (zI 3)]) (st := []) (Nf := 9) X 2 (c_X8_receiver l D cA had Mc289 r9 3 (by omega) (by omega) (RLL_q hR E289).2.1) gL_same_X8_receiver rfl (by decide +kernel) ⟨by decide, by decide⟩ (Nat.le_of_ble_eq_true rfl) ⟨by decide, by decide⟩ rfl (by decide) sh_90 rfl rfl dL_same_307 (fun z307 Mc307 q_307 => ?_)
        obtain ⟨Q307, F307⟩ := q_307
        have E307 : eqx M Mc307 E9 := eqx_tr E289 (eqx_mono F307 (by decide))
        have e_z307 : z307 = M 106 (4 * r + 3) + 100 := by
          have q := S_rec3 hR E289 (by omega) Q307
          rw [i91] at q
          exact q
        refine vv_aload_n X 3 rfl rfl dL_same_310 ?_
        refine vv_iconst (n := 4) X dL_same_311 ?_
        refine vv_iload X 9 rfl dL_same_312 ?_
        refine vv_imul X dL_same_314 ?_
        refine vv_iconst (n := 3) X dL_same_315 ?_
        refine vv_iadd X dL_same_316 ?_
        refine vv_iald (z := (M 106 (4 * r + 3))) X (by decide) sh_106 (by decide) (by omega) (by first | (rw [j3]; done) | (rw [j3]; exact (show Mc307 106 (4 * r + 3) = M 106 (4 * r + 3) from by rw [(E307 106 (by decide))]))) dL_same_317 ?_
        refine vv_bipush (n := 100) X (by decide) dL_same_318 ?_
        refine vv_iadd X dL_same_320 ?_
        refine vv_icmp_ne (tgt := 364) X (by omega) (by omega) dL_same_321 (by decide) (fun c_321 => ?_) (fun c_321 => ?_)
        · skip
          omega
        · skip
          refine vv_aload_n X 0 rfl rfl dL_same_324 ?_
          refine vv_iload X 9 rfl dL_same_325 ?_
          refine vv_iconst (n := 4) X dL_same_327 ?_
          refine vv_callVI (As := [.int (zI r9), .int (zI 4)]) (st := []) (Nf := 9) X 2 (c_X8_receiver l D cA had Mc307 r9 4 (by omega) (by omega) (RLL_q hR E307).2.1) gL_same_X8_receiver rfl (by decide +kernel) ⟨by decide, by decide⟩ (Nat.le_of_ble_eq_true rfl) ⟨by decide, by decide⟩ rfl (by decide) sh_90 rfl rfl dL_same_328 (fun z328 Mc328 q_328 => ?_)
          obtain ⟨Q328, F328⟩ := q_328
          have E328 : eqx M Mc328 E9 := eqx_tr E307 (eqx_mono F328 (by decide))
          have e_z328 : z328 = f11 := S_rec4 hR E307 (by omega) Q328 hf (by rw [i91]; exact hya) (fun y q1 q2 => by rw [i91]; exact hfy y q1 q2)
          refine vv_iload X 11 rfl dL_same_331 ?_
          refine vv_icmp_ne (tgt := 364) X (by omega) (by omega) dL_same_333 (by decide) (fun c_333 => ?_) (fun c_333 => ?_)
          · skip
            omega
          · skip
            refine vv_aload_n X 0 rfl rfl dL_same_336 ?_
            refine vv_iload X 9 rfl dL_same_337 ?_
            refine vv_iconst (n := 0) X dL_same_339 ?_
            refine vv_callVI (As := [.int (zI r9), .int (zI 0)]) (st := []) (Nf := 9) X 2 (c_X8_worth l D cA had Mc328 r9 0 (by omega) (by omega) (RLL_q hR E328).2.1) gL_same_X8_worth rfl (by decide +kernel) ⟨by decide, by decide⟩ (Nat.le_of_ble_eq_true rfl) ⟨by decide, by decide⟩ rfl (by decide) sh_90 rfl rfl dL_same_340 (fun z340 Mc340 q_340 => ?_)
            obtain ⟨Q340, F340⟩ := q_340
            have E340 : eqx M Mc340 E9 := eqx_tr E328 (eqx_mono F340 (by decide))
            have e_z340 : z340 = frA (woS (vL M) r) (mnT (vL M) * 100) := by
              have q := S_wor0 hR E328 (by omega) Q340
              rw [i91] at q
              exact q
            refine vv_aload X 6 rfl dL_same_343 ?_
            refine vv_iconst (n := 0) X dL_same_345 ?_
            refine vv_iald (z := (N251 109 0)) X (by decide) sh_109 (by decide) (by omega) (show Mc340 109 0 = N251 109 0 from by rw [((F340 109 (by decide)).trans ((F328 109 (by decide)).trans ((F307 109 (by decide)).trans ((F289 109 (by decide)).trans ((F271 109 (by decide)).trans ((F255 109 (by decide)).trans rfl))))))]) dL_same_346 ?_
            refine vv_icmp_ne (tgt := 364) X (by omega) (by omega) dL_same_347 (by decide) (fun c_347 => ?_) (fun c_347 => ?_)
            · skip
              omega
            · skip
              refine vv_aload_n X 0 rfl rfl dL_same_350 ?_
              refine vv_iload X 9 rfl dL_same_351 ?_
              refine vv_iconst (n := 1) X dL_same_353 ?_
              refine vv_callVI (As := [.int (zI r9), .int (zI 1)]) (st := []) (Nf := 9) X 2 (c_X8_worth l D cA had Mc340 r9 1 (by omega) (by omega) (RLL_q hR E340).2.1) gL_same_X8_worth rfl (by decide +kernel) ⟨by decide, by decide⟩ (Nat.le_of_ble_eq_true rfl) ⟨by decide, by decide⟩ rfl (by decide) sh_90 rfl rfl dL_same_354 (fun z354 Mc354 q_354 => ?_)
              obtain ⟨Q354, F354⟩ := q_354
              have E354 : eqx M Mc354 E9 := eqx_tr E340 (eqx_mono F354 (by decide))
              have e_z354 : z354 = frB (woS (vL M) r) (mnT (vL M) * 100) := by
                have q := S_wor1 hR E340 (by omega) Q354
                rw [i91] at q
                exact q
              refine vv_aload X 6 rfl dL_same_357 ?_
              refine vv_iconst (n := 1) X dL_same_359 ?_
              refine vv_iald (z := (N251 109 1)) X (by decide) sh_109 (by decide) (by omega) (show Mc354 109 1 = N251 109 1 from by rw [((F354 109 (by decide)).trans ((F340 109 (by decide)).trans ((F328 109 (by decide)).trans ((F307 109 (by decide)).trans ((F289 109 (by decide)).trans ((F271 109 (by decide)).trans ((F255 109 (by decide)).trans rfl)))))))]) dL_same_360 ?_
              refine vv_icmp_eq (tgt := 366) X (by omega) (by omega) dL_same_361 (by decide) (fun c_361 => ?_) (fun c_361 => ?_)
              · skip
                refine vv_sub (lv' := [(0, .ref (ad 90)), (1, .int (zI x)), (2, .ref (ad 105)), (3, .ref (ad 106)), (4, .ref (ad 107)), (5, .ref (ad 108)), (6, .ref (ad 109)), (7, .int (zI a7)), (8, .int (zI a8)), (9, .int (zI r9))]) [0, 1, 2, 3, 4, 5, 6, 7, 8, 9] rfl ?_
                exact nx Mc354 E354
              · skip
                omega
set_option maxRecDepth 100000 in
set_option maxHeartbeats 4000000 in
theorem same_B {p : Program} {l : Launch} {e : Env} {s : State} {m : MethodId} {args : Array Value} {below : List Frame} {meth : Method} {c : Code} {D : va_G} {ad : Nat → Nat} {cA : Nat → ClassId} (X : Cx p s m args c cL_same yL_same.cls 17 wsL_same D ad cA (Afr ad s.heap.size)) (hm : Mt meth (some .boolean)) {x a7 a8 : Int} (M Ms : Mem) (hR : RLL M) (hs : eqx M Ms E9) (e7 : a7 = mnT (vL M)) (nx : ∀ N : Mem, eqx M N E9 → VV p l e { frames := 6, cells := 0, slots := 0, locals := 133 } s m args below meth c 17 D ad cA (Afr ad s.heap.size) 0 0 (QI below args s D ad cA (fun z M1 => z = 1 ∧ eqx M M1 E9)) N 372 [(0, .ref (ad 90)), (1, .int (zI x)), (2, .ref (ad 105)), (3, .ref (ad 106)), (4, .ref (ad 107)), (5, .ref (ad 108)), (6, .ref (ad 109)), (7, .int (zI a7)), (8, .int (zI a8))] []) : VV p l e { frames := 6, cells := 0, slots := 0, locals := 133 } s m args below meth c 17 D ad cA (Afr ad s.heap.size) 0 0 (QI below args s D ad cA (fun z M1 => z = 1 ∧ eqx M M1 E9)) Ms 130 [(0, .ref (ad 90)), (1, .int (zI x)), (2, .ref (ad 105)), (3, .ref (ad 106)), (4, .ref (ad 107)), (5, .ref (ad 108)), (6, .ref (ad 109)), (7, .int (zI a7)), (8, .int (zI a8))] [] := by
  have had := X.2.2.2.1
  have hwl := RLL_wl hR
  have hW : rWR M := hwl.2.1
  have h5 := hW.2.1
  have h50 := hW.1
  have hsm : 1 ≤ M 105 2 ∧ M 105 2 ≤ 6 := WFs_pos hwl.2.2
  have hwb : ∀ k : Nat, (k : Int) < M 105 2 → (1 ≤ M 107 k ∧ M 107 k ≤ 999) ∧ (0 ≤ M 108 k ∧ M 108 k ≤ 100) := fun k hk => WFs_b hwl.2.2 hk
  have hp9 : 1 ≤ M 105 0 ∧ M 105 0 ≤ 99 := hwl.1
  have hvb : ∀ y : Int, -495 ≤ rvl M y ∧ rvl M y ≤ 990 := fun y => vl_b hW.2
  refine vv_iconst (n := 0) X dL_same_130 ?_
  refine vv_istore (lv' := [(9, .int (zI 0)), (0, .ref (ad 90)), (1, .int (zI x)), (2, .ref (ad 105)), (3, .ref (ad 106)), (4, .ref (ad 107)), (5, .ref (ad 108)), (6, .ref (ad 109)), (7, .int (zI a7)), (8, .int (zI a8))]) X (by decide) rfl dL_same_131 ?_
  have loop_133 : ∀ (n : Nat) (M_133 : Mem) (r : Nat) (r9 : Int), r9 = (r : Int) → (r : Int) ≤ M 105 1 → eqx M M_133 E9 → (M 105 1 - r9).toNat < n → VV p l e { frames := 6, cells := 0, slots := 0, locals := 133 } s m args below meth c 17 D ad cA (Afr ad s.heap.size) 0 0 (QI below args s D ad cA (fun z M1 => z = 1 ∧ eqx M M1 E9)) M_133 133 [(0, .ref (ad 90)), (1, .int (zI x)), (2, .ref (ad 105)), (3, .ref (ad 106)), (4, .ref (ad 107)), (5, .ref (ad 108)), (6, .ref (ad 109)), (7, .int (zI a7)), (8, .int (zI a8)), (9, .int (zI r9))] [] := by
    intro n
    induction n with
    | zero => intro M_133 r r9 g9 gr hE133 hn; exact absurd hn (Nat.not_lt_zero _)
    | succ n ih_133 =>
      intro M_133 r r9 g9 gr hE133 hn
      have e_133_105 : M_133 105 = M 105 := hE133 105 (by decide)
      have e_133_106 : M_133 106 = M 106 := hE133 106 (by decide)
      have e_133_107 : M_133 107 = M 107 := hE133 107 (by decide)
      have e_133_108 : M_133 108 = M 108 := hE133 108 (by decide)
      have i91 : r9.toNat = r := by omega
      have j0 : (4 * r9).toNat = 4 * r := by omega
      have j1 : (4 * r9 + 1).toNat = 4 * r + 1 := by omega
      have j2 : (4 * r9 + 2).toNat = 4 * r + 2 := by omega
      have j3 : (4 * r9 + 3).toNat = 4 * r + 3 := by omega
      have hwr : (r : Int) < M 105 1 → (1 ≤ M 106 (4 * r) ∧ M 106 (4 * r) ≤ 99) ∧ (1 ≤ M 106 (4 * r + 1) ∧ M 106 (4 * r + 1) ≤ 99) ∧ (0 ≤ M 106 (4 * r + 2) ∧ M 106 (4 * r + 2) ≤ 99) ∧ (-99 ≤ M 106 (4 * r + 3) ∧ M 106 (4 * r + 3) ≤ 99) := fun q => hW.2.2 r (by omega)
      have hW133 := W_E9 hW hE133
      refine vv_iload X 9 rfl dL_same_133 ?_
      refine vv_aload_n X 2 rfl rfl dL_same_135 ?_
      refine vv_iconst (n := 1) X dL_same_136 ?_
      refine vv_iald (z := (M 105 1)) X (by decide) sh_105 (by decide) (by omega) (show M_133 105 1 = M 105 1 from by rw [e_133_105]) dL_same_137 ?_
      refine vv_icmp_ge (tgt := 372) X (by omega) (by omega) dL_same_138 (by decide) (fun c_138 => ?_) (fun c_138 => ?_)
      · skip
        refine vv_sub (lv' := [(0, .ref (ad 90)), (1, .int (zI x)), (2, .ref (ad 105)), (3, .ref (ad 106)), (4, .ref (ad 107)), (5, .ref (ad 108)), (6, .ref (ad 109)), (7, .int (zI a7)), (8, .int (zI a8))]) [0, 1, 2, 3, 4, 5, 6, 7, 8] rfl ?_
        exact nx M_133 hE133
      · skip
        refine vv_iconst (n := 0) X dL_same_141 ?_
        refine vv_istore (lv' := [(10, .int (zI 0)), (0, .ref (ad 90)), (1, .int (zI x)), (2, .ref (ad 105)), (3, .ref (ad 106)), (4, .ref (ad 107)), (5, .ref (ad 108)), (6, .ref (ad 109)), (7, .int (zI a7)), (8, .int (zI a8)), (9, .int (zI r9))]) X (by decide) rfl dL_same_142 ?_
        refine vv_iconst (n := 0) X dL_same_144 ?_
        refine vv_istore (lv' := [(11, .int (zI 0)), (10, .int (zI 0)), (0, .ref (ad 90)), (1, .int (zI x)), (2, .ref (ad 105)), (3, .ref (ad 106)), (4, .ref (ad 107)), (5, .ref (ad 108)), (6, .ref (ad 109)), (7, .int (zI a7)), (8, .int (zI a8)), (9, .int (zI r9))]) X (by decide) rfl dL_same_145 ?_
        refine vv_iconst (n := 0) X dL_same_147 ?_
        refine vv_istore (lv' := [(12, .int (zI 0)), (11, .int (zI 0)), (10, .int (zI 0)), (0, .ref (ad 90)), (1, .int (zI x)), (2, .ref (ad 105)), (3, .ref (ad 106)), (4, .ref (ad 107)), (5, .ref (ad 108)), (6, .ref (ad 109)), (7, .int (zI a7)), (8, .int (zI a8)), (9, .int (zI r9))]) X (by decide) rfl dL_same_148 ?_
        have loop_150 : ∀ (n : Nat)  (t : Nat) (b10 : Int) (b12 : Int), b12 = (t : Int) → (t : Int) ≤ M 105 2 → b10 = sm (woT M r) t → (M 105 2 - b12).toNat < n → VV p l e { frames := 6, cells := 0, slots := 0, locals := 133 } s m args below meth c 17 D ad cA (Afr ad s.heap.size) 0 0 (QI below args s D ad cA (fun z M1 => z = 1 ∧ eqx M M1 E9)) M_133 150 [(0, .ref (ad 90)), (1, .int (zI x)), (2, .ref (ad 105)), (3, .ref (ad 106)), (4, .ref (ad 107)), (5, .ref (ad 108)), (6, .ref (ad 109)), (7, .int (zI a7)), (8, .int (zI a8)), (9, .int (zI r9)), (10, .int (zI b10)), (11, .int (zI 0)), (12, .int (zI b12))] [] := by
          intro n
          induction n with
          | zero => intro t b10 b12 n12 nt n10 hn; exact absurd hn (Nat.not_lt_zero _)
          | succ n ih_150 =>
            intro t b10 b12 n12 nt n10 hn
            have it : b12.toNat = t := by omega
            have hwt : (t : Int) < M 105 2 → (1 ≤ M 107 t ∧ M 107 t ≤ 999) ∧ (0 ≤ M 108 t ∧ M 108 t ≤ 100) := hwb t
            refine vv_iload X 12 rfl dL_same_150 ?_
            refine vv_aload_n X 2 rfl rfl dL_same_152 ?_
            refine vv_iconst (n := 2) X dL_same_153 ?_
            refine vv_iald (z := (M 105 2)) X (by decide) sh_105 (by decide) (by omega) (show M_133 105 2 = M 105 2 from by rw [e_133_105]) dL_same_154 ?_
            refine vv_icmp_ge (tgt := 218) X (by omega) (by omega) dL_same_155 (by decide) (fun c_155 => ?_) (fun c_155 => ?_)
            · skip
              have et : (M 105 2).toNat = t := by omega
              have e10 : b10 = woS (vL M) r := by rw [n10, ← et]; rfl
              have hw7 := hwr (by omega)
              have wb10 : 0 ≤ b10 ∧ b10 ≤ 100000000 := by
                rw [n10]
                exact woT_b (fun i hi => hwb i (by omega)) hw7.1 hw7.2.1 (by omega)
              have loop_218 : ∀ (n : Nat)  (f11 : Int), 0 ≤ f11 ∧ f11 ≤ 100 → (∀ y : Int, 0 ≤ y → y < f11 → ¬ ac (rL M) (rG M) y r) → (100 - f11).toNat < n → VV p l e { frames := 6, cells := 0, slots := 0, locals := 133 } s m args below meth c 17 D ad cA (Afr ad s.heap.size) 0 0 (QI below args s D ad cA (fun z M1 => z = 1 ∧ eqx M M1 E9)) M_133 218 [(0, .ref (ad 90)), (1, .int (zI x)), (2, .ref (ad 105)), (3, .ref (ad 106)), (4, .ref (ad 107)), (5, .ref (ad 108)), (6, .ref (ad 109)), (7, .int (zI a7)), (8, .int (zI a8)), (9, .int (zI r9)), (10, .int (zI b10)), (11, .int (zI f11))] [] := by
                intro n
                induction n with
                | zero => intro f11 hf hfy hn; exact absurd hn (Nat.not_lt_zero _)
                | succ n ih_218 =>
                  intro f11 hf hfy hn
                  refine vv_iload X 11 rfl dL_same_218 ?_
                  refine vv_aload_n X 2 rfl rfl dL_same_220 ?_
                  refine vv_aload_n X 3 rfl rfl dL_same_221 ?_
                  refine vv_callSI (As := [.int (zI f11), .ref (ad 105), .ref (ad 106)]) (st := []) X 3 (c_L_acting l D cA had M_133 f11 (by omega) (hW133)) gL_same_L_acting rfl (by decide +kernel) ⟨by decide, by decide⟩ (Nat.le_of_ble_eq_true rfl) ⟨by decide, by decide⟩ rfl rfl dL_same_222 (fun z222 Mc222 q_222 => ?_)
                  obtain ⟨e_z222, g_z222⟩ := q_222
                  have g_z222 := g_z222.symm
                  subst g_z222
                  rw [mk_E9 hE133] at e_z222
                  have hs9 : 0 ≤ z222 ∧ z222 < 32 := by rw [e_z222]; exact mk_32 h5
                  have hbit : z222 / ((2 ^ r : Nat) : Int) % 2 = if ac (rL M) (rG M) f11 r then 1 else 0 := by rw [e_z222]; exact mk_bit (by omega)
                  have hq0 : 0 ≤ z222 / ((2 ^ r : Nat) : Int) ∧ z222 / ((2 ^ r : Nat) : Int) < 32 := ⟨Int.ediv_nonneg hs9.1 (Int.natCast_nonneg _), Int.lt_of_le_of_lt (Int.ediv_le_self _ hs9.1) hs9.2⟩
                  refine vv_iload X 9 rfl dL_same_225 ?_
                  refine vv_ishr (a := (z222 / ((2 ^ r : Nat) : Int))) X (by rw [g9]; exact bit1 z222 hs9 r (by omega)) dL_same_227 ?_
                  refine vv_iconst (n := 1) X dL_same_228 ?_
                  refine vv_iand (a := (z222 / ((2 ^ r : Nat) : Int) % 2)) X (bit2 _ hq0) dL_same_229 ?_
                  refine vv_if_ne (tgt := 239) X (by rw [hbit]; split <;> omega) dL_same_230 (by decide) (fun c_230 => ?_) (fun c_230 => ?_)
                  · skip
                    have hya : ac (rL M) (rG M) f11 r := Classical.byContradiction fun q => by rw [if_neg q] at hbit; omega
                    refine vv_sub (lv' := [(0, .ref (ad 90)), (1, .int (zI x)), (2, .ref (ad 105)), (3, .ref (ad 106)), (4, .ref (ad 107)), (5, .ref (ad 108)), (6, .ref (ad 109)), (7, .int (zI a7)), (8, .int (zI a8)), (9, .int (zI r9)), (10, .int (zI b10)), (11, .int (zI f11))]) [0, 1, 2, 3, 4, 5, 6, 7, 8, 9, 10, 11] rfl ?_
                    refine same_B1 X hm M M_133 hR hE133 g9 (by omega) e7 e10 wb10 hf hya hfy (fun N239 h239 => ?_)
                    refine vv_iinc (lv' := [(9, .int (zI (r9 + 1))), (0, .ref (ad 90)), (1, .int (zI x)), (2, .ref (ad 105)), (3, .ref (ad 106)), (4, .ref (ad 107)), (5, .ref (ad 108)), (6, .ref (ad 109)), (7, .int (zI a7)), (8, .int (zI a8))]) X 9 rfl (by decide) rfl dL_same_366 ?_
                    refine vv_goto (tgt := 133) X (by decide) dL_same_369 ?_
                    refine vv_sub (lv' := [(0, .ref (ad 90)), (1, .int (zI x)), (2, .ref (ad 105)), (3, .ref (ad 106)), (4, .ref (ad 107)), (5, .ref (ad 108)), (6, .ref (ad 109)), (7, .int (zI a7)), (8, .int (zI a8)), (9, .int (zI (r9 + 1)))]) [1, 2, 3, 4, 5, 6, 7, 8, 9, 0] rfl ?_
                    exact ih_133 N239 (r + 1) (r9 + 1) (by omega) (by omega) E354 (by omega)
                  · skip
                    have hna : ¬ ac (rL M) (rG M) f11 r := fun q => by rw [if_pos q] at hbit; omega
                    have hlt : f11 < 100 := by
                      rcases (show f11 < 100 ∨ f11 = 100 by omega) with q | q
                      · exact q
                      · exfalso
                        rw [q] at hna
                        exact hna (show (100 - 100 : Int) * M 106 (4 * r) ≤ 100 * M 106 (4 * r + 1) by omega)
                    refine vv_iinc (lv' := [(11, .int (zI (f11 + 1))), (0, .ref (ad 90)), (1, .int (zI x)), (2, .ref (ad 105)), (3, .ref (ad 106)), (4, .ref (ad 107)), (5, .ref (ad 108)), (6, .ref (ad 109)), (7, .int (zI a7)), (8, .int (zI a8)), (9, .int (zI r9)), (10, .int (zI b10))]) X 11 rfl (by decide) rfl dL_same_233 ?_
                    refine vv_goto (tgt := 218) X (by decide) dL_same_236 ?_
                    refine vv_sub (lv' := [(0, .ref (ad 90)), (1, .int (zI x)), (2, .ref (ad 105)), (3, .ref (ad 106)), (4, .ref (ad 107)), (5, .ref (ad 108)), (6, .ref (ad 109)), (7, .int (zI a7)), (8, .int (zI a8)), (9, .int (zI r9)), (10, .int (zI b10)), (11, .int (zI (f11 + 1)))]) [1, 2, 3, 4, 5, 6, 7, 8, 9, 10, 11, 0] rfl ?_
                    exact ih_218 (f11 + 1) (by omega) (fun y q1 q2 => by
                      rcases (show y < f11 ∨ y = f11 by omega) with q | q
                      · exact hfy y q1 q
                      · rw [q]; exact hna) (by omega)
              refine vv_sub (lv' := [(0, .ref (ad 90)), (1, .int (zI x)), (2, .ref (ad 105)), (3, .ref (ad 106)), (4, .ref (ad 107)), (5, .ref (ad 108)), (6, .ref (ad 109)), (7, .int (zI a7)), (8, .int (zI a8)), (9, .int (zI r9)), (10, .int (zI b10)), (11, .int (zI 0))]) [0, 1, 2, 3, 4, 5, 6, 7, 8, 9, 10, 11] rfl ?_
              exact loop_218 _ 0 (by omega) (fun y q1 q2 => absurd q2 (by omega)) (Nat.lt_succ_self _)
            · skip
              have hw8 := hwr (by omega)
              have hw6 := hwt (by omega)
              have mm1 := mulB (a := M 108 t) (A := 100) (b := M 106 (4 * r + 1)) (B := 99) (by omega) (by omega)
              have mm2 := mulB (a := 100 - M 108 t) (A := 100) (b := M 106 (4 * r)) (B := 99) (by omega) (by omega)
              refine vv_aload X 5 rfl dL_same_158 ?_
              refine vv_iload X 12 rfl dL_same_160 ?_
              refine vv_iald (z := (M 108 t)) X (by decide) sh_108 (by decide) (by omega) (by first | (rw [it]; done) | (rw [it]; exact (show M_133 108 t = M 108 t from by rw [e_133_108]))) dL_same_162 ?_
              refine vv_aload_n X 3 rfl rfl dL_same_163 ?_
              refine vv_iconst (n := 4) X dL_same_164 ?_
              refine vv_iload X 9 rfl dL_same_165 ?_
              refine vv_imul X dL_same_167 ?_
              refine vv_iconst (n := 1) X dL_same_168 ?_
              refine vv_iadd X dL_same_169 ?_
              refine vv_iald (z := (M 106 (4 * r + 1))) X (by decide) sh_106 (by decide) (by omega) (by first | (rw [j1]; done) | (rw [j1]; exact (show M_133 106 (4 * r + 1) = M 106 (4 * r + 1) from by rw [e_133_106]))) dL_same_170 ?_
              refine vv_imul X dL_same_171 ?_
              refine vv_bipush (n := 100) X (by decide) dL_same_172 ?_
              refine vv_aload X 5 rfl dL_same_174 ?_
              refine vv_iload X 12 rfl dL_same_176 ?_
              refine vv_iald (z := (M 108 t)) X (by decide) sh_108 (by decide) (by omega) (by first | (rw [it]; done) | (rw [it]; exact (show M_133 108 t = M 108 t from by rw [e_133_108]))) dL_same_178 ?_
              refine vv_isub X dL_same_179 ?_
              refine vv_aload_n X 3 rfl rfl dL_same_180 ?_
              refine vv_iconst (n := 4) X dL_same_181 ?_
              refine vv_iload X 9 rfl dL_same_182 ?_
              refine vv_imul X dL_same_184 ?_
              refine vv_iald (z := (M 106 (4 * r))) X (by decide) sh_106 (by decide) (by omega) (by first | (rw [j0]; done) | (rw [j0]; exact (show M_133 106 (4 * r) = M 106 (4 * r) from by rw [e_133_106]))) dL_same_185 ?_
              refine vv_imul X dL_same_186 ?_
              refine vv_isub X dL_same_187 ?_
              obtain ⟨by13, eby13⟩ : ∃ z : Int, (((M 108 t) * (M 106 (4 * r + 1))) - ((100 - (M 108 t)) * (M 106 (4 * r)))) = z := ⟨_, rfl⟩
              rw [eby13]
              refine vv_istore (lv' := [(13, .int (zI by13)), (0, .ref (ad 90)), (1, .int (zI x)), (2, .ref (ad 105)), (3, .ref (ad 106)), (4, .ref (ad 107)), (5, .ref (ad 108)), (6, .ref (ad 109)), (7, .int (zI a7)), (8, .int (zI a8)), (9, .int (zI r9)), (10, .int (zI b10)), (11, .int (zI 0)), (12, .int (zI b12))]) X (by decide) rfl dL_same_188 ?_
              refine vv_iload X 11 rfl dL_same_190 ?_
              refine vv_iload X 0 rfl dL_same_192 ?_
              refine vv_if_le (tgt := 208) X (by omega) dL_same_194 (by decide) (fun c_194 => ?_) (fun c_194 => ?_)
              · skip
                refine vv_iconst (n := 0) X dL_same_208 ?_
                refine vv_iadd X dL_same_209 ?_
                refine vv_istore (lv' := [(10, .int (zI (b10 + 0))), (13, .int (zI by13)), (0, .ref (ad 90)), (1, .int (zI x)), (2, .ref (ad 105)), (3, .ref (ad 106)), (4, .ref (ad 107)), (5, .ref (ad 108)), (6, .ref (ad 109)), (7, .int (zI a7)), (8, .int (zI a8)), (9, .int (zI r9)), (11, .int (zI 0)), (12, .int (zI b12))]) X (by decide) rfl dL_same_210 ?_
                refine vv_iinc (lv' := [(12, .int (zI (b12 + 1))), (10, .int (zI (b10 + 0))), (13, .int (zI by13)), (0, .ref (ad 90)), (1, .int (zI x)), (2, .ref (ad 105)), (3, .ref (ad 106)), (4, .ref (ad 107)), (5, .ref (ad 108)), (6, .ref (ad 109)), (7, .int (zI a7)), (8, .int (zI a8)), (9, .int (zI r9)), (11, .int (zI 0))]) X 13 rfl (by decide) rfl dL_same_212 ?_
                refine vv_goto (tgt := 150) X (by decide) dL_same_215 ?_
                refine vv_sub (lv' := [(0, .ref (ad 90)), (1, .int (zI x)), (2, .ref (ad 105)), (3, .ref (ad 106)), (4, .ref (ad 107)), (5, .ref (ad 108)), (6, .ref (ad 109)), (7, .int (zI a7)), (8, .int (zI a8)), (9, .int (zI r9)), (10, .int (zI (b10 + 0))), (11, .int (zI 0)), (12, .int (zI (b12 + 1)))]) [3, 4, 5, 6, 7, 8, 9, 10, 11, 12, 1, 13, 0] rfl ?_
                exact ih_150 (t + 1) (b10 + 0) (b12 + 1) (by omega) (by omega) (by
                  rw [n10]
                  show _ = sm (woT M r) t + M 107 t * (if (M 108 t * M 106 (4 * r + 1) - (100 - M 108 t) * M 106 (4 * r)) < 0 then 0 else (M 108 t * M 106 (4 * r + 1) - (100 - M 108 t) * M 106 (4 * r)))
                  rw [eby13]
                  by_cases q : by13 < 0
                  · rw [if_pos q, Int.mul_zero]
                  · rw [if_neg q, show by13 = 0 by omega, Int.mul_zero]) (by omega)
              · skip
                refine vv_aload X 5 rfl dL_same_197 ?_
                refine vv_iload X 13 rfl dL_same_199 ?_
                refine vv_iald (z := (M 107 t)) X (by decide) sh_107 (by decide) (by omega) (by first | (rw [it]; done) | (rw [it]; exact (show M_133 107 t = M 107 t from by rw [e_133_107]))) dL_same_201 ?_
                refine vv_iload X 0 rfl dL_same_202 ?_
                refine vv_imul X dL_same_204 ?_
                refine vv_goto (tgt := 209) X (by decide) dL_same_205 ?_
                refine vv_iadd X dL_same_209 ?_
                refine vv_istore (lv' := [(10, .int (zI (b10 + ((M 107 t) * by13)))), (13, .int (zI by13)), (0, .ref (ad 90)), (1, .int (zI x)), (2, .ref (ad 105)), (3, .ref (ad 106)), (4, .ref (ad 107)), (5, .ref (ad 108)), (6, .ref (ad 109)), (7, .int (zI a7)), (8, .int (zI a8)), (9, .int (zI r9)), (11, .int (zI 0)), (12, .int (zI b12))]) X (by decide) rfl dL_same_210 ?_
                refine vv_iinc (lv' := [(12, .int (zI (b12 + 1))), (10, .int (zI (b10 + ((M 107 t) * by13)))), (13, .int (zI by13)), (0, .ref (ad 90)), (1, .int (zI x)), (2, .ref (ad 105)), (3, .ref (ad 106)), (4, .ref (ad 107)), (5, .ref (ad 108)), (6, .ref (ad 109)), (7, .int (zI a7)), (8, .int (zI a8)), (9, .int (zI r9)), (11, .int (zI 0))]) X 13 rfl (by decide) rfl dL_same_212 ?_
                refine vv_goto (tgt := 150) X (by decide) dL_same_215 ?_
                refine vv_sub (lv' := [(0, .ref (ad 90)), (1, .int (zI x)), (2, .ref (ad 105)), (3, .ref (ad 106)), (4, .ref (ad 107)), (5, .ref (ad 108)), (6, .ref (ad 109)), (7, .int (zI a7)), (8, .int (zI a8)), (9, .int (zI r9)), (10, .int (zI (b10 + ((M 107 t) * by13)))), (11, .int (zI 0)), (12, .int (zI (b12 + 1)))]) [3, 4, 5, 6, 7, 8, 9, 10, 11, 12, 1, 13, 0] rfl ?_
                exact ih_150 (t + 1) (b10 + ((M 107 t) * by13)) (b12 + 1) (by omega) (by omega) (by
                  rw [n10]
                  show _ = sm (woT M r) t + M 107 t * (if (M 108 t * M 106 (4 * r + 1) - (100 - M 108 t) * M 106 (4 * r)) < 0 then 0 else (M 108 t * M 106 (4 * r + 1) - (100 - M 108 t) * M 106 (4 * r)))
                  rw [eby13]
                  rw [if_neg (by omega)]) (by omega)
        refine vv_sub (lv' := [(0, .ref (ad 90)), (1, .int (zI x)), (2, .ref (ad 105)), (3, .ref (ad 106)), (4, .ref (ad 107)), (5, .ref (ad 108)), (6, .ref (ad 109)), (7, .int (zI a7)), (8, .int (zI a8)), (9, .int (zI r9)), (10, .int (zI 0)), (11, .int (zI 0)), (12, .int (zI 0))]) [3, 4, 5, 6, 7, 8, 9, 10, 11, 12, 2, 1, 0] rfl ?_
        exact loop_150 _ 0 0 0 rfl (by omega) rfl (Nat.lt_succ_self _)
  refine vv_sub (lv' := [(0, .ref (ad 90)), (1, .int (zI x)), (2, .ref (ad 105)), (3, .ref (ad 106)), (4, .ref (ad 107)), (5, .ref (ad 108)), (6, .ref (ad 109)), (7, .int (zI a7)), (8, .int (zI a8)), (9, .int (zI 0))]) [1, 2, 3, 4, 5, 6, 7, 8, 9, 0] rfl ?_
  exact loop_133 _ Ms 0 0 rfl (by omega) hE9 (Nat.lt_succ_self _)
set_option maxRecDepth 100000 in
set_option maxHeartbeats 4000000 in
theorem same_C {p : Program} {l : Launch} {e : Env} {s : State} {m : MethodId} {args : Array Value} {below : List Frame} {meth : Method} {c : Code} {D : va_G} {ad : Nat → Nat} {cA : Nat → ClassId} (X : Cx p s m args c cL_same yL_same.cls 17 wsL_same D ad cA (Afr ad s.heap.size)) (hm : Mt meth (some .boolean)) {x a7 a8 : Int} (M Ms : Mem) (hR : RLL M) (hs : eqx M Ms E9) (e7 : a7 = mnT (vL M)) (e8 : a8 = mnS (vL M)) (nx : ∀ N : Mem, eqx M N E9 → VV p l e { frames := 6, cells := 0, slots := 0, locals := 133 } s m args below meth c 17 D ad cA (Afr ad s.heap.size) 0 0 (QI below args s D ad cA (fun z M1 => z = 1 ∧ eqx M M1 E9)) N 527 [(0, .ref (ad 90)), (1, .int (zI x)), (2, .ref (ad 105)), (3, .ref (ad 106)), (4, .ref (ad 107)), (5, .ref (ad 108)), (6, .ref (ad 109))] []) : VV p l e { frames := 6, cells := 0, slots := 0, locals := 133 } s m args below meth c 17 D ad cA (Afr ad s.heap.size) 0 0 (QI below args s D ad cA (fun z M1 => z = 1 ∧ eqx M M1 E9)) Ms 372 [(0, .ref (ad 90)), (1, .int (zI x)), (2, .ref (ad 105)), (3, .ref (ad 106)), (4, .ref (ad 107)), (5, .ref (ad 108)), (6, .ref (ad 109)), (7, .int (zI a7)), (8, .int (zI a8))] [] := by
  have had := X.2.2.2.1
  have hwl := RLL_wl hR
  have hW : rWR M := hwl.2.1
  have h5 := hW.2.1
  have h50 := hW.1
  have hsm : 1 ≤ M 105 2 ∧ M 105 2 ≤ 6 := WFs_pos hwl.2.2
  have hwb : ∀ k : Nat, (k : Int) < M 105 2 → (1 ≤ M 107 k ∧ M 107 k ≤ 999) ∧ (0 ≤ M 108 k ∧ M 108 k ≤ 100) := fun k hk => WFs_b hwl.2.2 hk
  have hp9 : 1 ≤ M 105 0 ∧ M 105 0 ≤ 99 := hwl.1
  have hvb : ∀ y : Int, -495 ≤ rvl M y ∧ rvl M y ≤ 990 := fun y => vl_b hW.2
  have hT := mnT_b hwl
  rw [← e7] at hT
  have e100 : 100 * a7 = mnT (vL M) * 100 := by rw [← e7]; omega
  have hmn := mn_b hwl
  rw [← e8] at hmn
  refine vv_iload X 8 rfl dL_same_372 ?_
  refine vv_iload X 7 rfl dL_same_374 ?_
  refine vv_aload X 6 rfl dL_same_376 ?_
  refine vv_callSV (As := [.int (zI a8), .int (zI a7), .ref (ad 109)]) (st := []) X 3 (c_L_least l D cA had Ms a8 a7 (by omega) (by omega) (by omega)) gL_same_L_least rfl (by decide +kernel) ⟨by decide, by decide⟩ (Nat.le_of_ble_eq_true rfl) ⟨by decide, by decide⟩ rfl rfl dL_same_378 (fun Mc378 q_378 => ?_)
  have q_378 := q_378.symm
  subst q_378
  obtain ⟨N381, h_N381⟩ : ∃ N : Mem, N = (up2 (up2 Ms 109 0 (frA a8 a7)) 109 1 (frB a8 a7)) := ⟨_, rfl⟩
  rw [← h_N381]
  have EN381 : eqx M N381 E9 := by rw [h_N381]; exact eqx_up _ _ (eqx_up _ _ hs (by decide)) (by decide)
  obtain ⟨mA, hmA⟩ : ∃ q : Int, q = frA (mnS (vL M)) (mnT (vL M)) := ⟨_, rfl⟩
  obtain ⟨mB, hmB⟩ : ∃ q : Int, q = frB (mnS (vL M)) (mnT (vL M)) := ⟨_, rfl⟩
  have f381a : N381 109 0 = mA := by rw [h_N381, hmA, ← e7, ← e8]; rfl
  have f381b : N381 109 1 = mB := by rw [h_N381, hmB, ← e7, ← e8]; rfl
  have hfm := fr_b2 (a := mnS (vL M)) (b := mnT (vL M)) (A := 1073741824) (by rw [← e8]; omega) (by rw [← e7]; omega)
  rw [← hmA, ← hmB, ← e7] at hfm
  refine vv_aload X 6 rfl dL_same_381 ?_
  refine vv_iconst (n := 0) X dL_same_383 ?_
  refine vv_iald (z := mA) X (by decide) sh_109 (by decide) (by omega) (f381a) dL_same_384 ?_
  refine vv_istore (lv' := [(9, .int (zI mA)), (0, .ref (ad 90)), (1, .int (zI x)), (2, .ref (ad 105)), (3, .ref (ad 106)), (4, .ref (ad 107)), (5, .ref (ad 108)), (6, .ref (ad 109)), (7, .int (zI a7)), (8, .int (zI a8))]) X (by decide) rfl dL_same_385 ?_
  refine vv_aload X 7 rfl dL_same_387 ?_
  refine vv_iconst (n := 1) X dL_same_389 ?_
  refine vv_iald (z := mB) X (by decide) sh_109 (by decide) (by omega) (f381b) dL_same_390 ?_
  refine vv_istore (lv' := [(10, .int (zI mB)), (9, .int (zI mA)), (0, .ref (ad 90)), (1, .int (zI x)), (2, .ref (ad 105)), (3, .ref (ad 106)), (4, .ref (ad 107)), (5, .ref (ad 108)), (6, .ref (ad 109)), (7, .int (zI a7)), (8, .int (zI a8))]) X (by decide) rfl dL_same_391 ?_
  refine vv_aload_n X 4 rfl rfl dL_same_393 ?_
  refine vv_iconst (n := 0) X dL_same_394 ?_
  refine vv_iald (z := (M 105 0)) X (by decide) sh_105 (by decide) (by omega) (show N381 105 0 = M 105 0 from by rw [(EN381 105 (by decide))]) dL_same_395 ?_
  refine vv_aload_n X 4 rfl rfl dL_same_396 ?_
  refine vv_aload_n X 5 rfl rfl dL_same_397 ?_
  refine vv_aload X 8 rfl dL_same_398 ?_
  refine vv_callSI (As := [.int (zI (M 105 0)), .ref (ad 105), .ref (ad 106), .ref (ad 109)]) (st := []) X 4 (c_L_envelope l D cA had N381 (M 105 0) (by omega) (W_E9 hW EN381)) gL_same_L_envelope rfl (by decide +kernel) ⟨by decide, by decide⟩ (Nat.le_of_ble_eq_true rfl) ⟨by decide, by decide⟩ rfl rfl dL_same_400 (fun z400 Mc400 q_400 => ?_)
  obtain ⟨lo400, hi400, hB400, e_z400, q_400⟩ := q_400
  have q_400 := q_400.symm
  subst q_400
  refine vv_pop X rfl dL_same_403 ?_
  obtain ⟨N404, h_N404⟩ : ∃ N : Mem, N = (up2 (up2 N381 109 0 (frA (sN (rvl N381) (M 105 0) lo400 hi400) (sD lo400 hi400))) 109 1 (frB (sN (rvl N381) (M 105 0) lo400 hi400) (sD lo400 hi400))) := ⟨_, rfl⟩
  rw [← h_N404]
  have EN404 : eqx M N404 E9 := by rw [h_N404]; exact eqx_up _ _ (eqx_up _ _ EN381 (by decide)) (by decide)
  rw [rvl_E9 EN381] at hB400 h_N404
  have f404a : N404 109 0 = frA (sN (rvl M) (M 105 0) lo400 hi400) (sD lo400 hi400) := by rw [h_N404]; rfl
  have f404b : N404 109 1 = frB (sN (rvl M) (M 105 0) lo400 hi400) (sD lo400 hi400) := by rw [h_N404]; rfl
  have hd400 := sD_b (show 0 ≤ M 105 0 ∧ M 105 0 ≤ 100 by omega) hB400.1
  have hfe := fr_b2 (a := sN (rvl M) (M 105 0) lo400 hi400) (b := sD lo400 hi400) (A := 198000) (sN_b hvb (by omega) hB400.1) (sD_pos hB400.1)
  refine vv_iload X 1 rfl dL_same_404 ?_
  have join_429 : ∀ (e11 : Int), e11 = (if mA = frA (sN (rvl M) (M 105 0) lo400 hi400) (sD lo400 hi400) ∧ mB = frB (sN (rvl M) (M 105 0) lo400 hi400) (sD lo400 hi400) then 1 else 0) → VV p l e { frames := 6, cells := 0, slots := 0, locals := 133 } s m args below meth c 17 D ad cA (Afr ad s.heap.size) 0 0 (QI below args s D ad cA (fun z M1 => z = 1 ∧ eqx M M1 E9)) N404 429 [(0, .ref (ad 90)), (1, .int (zI x)), (2, .ref (ad 105)), (3, .ref (ad 106)), (4, .ref (ad 107)), (5, .ref (ad 108)), (6, .ref (ad 109)), (7, .int (zI a7)), (8, .int (zI a8)), (9, .int (zI mA)), (10, .int (zI mB)), (11, .int (zI e11))] [] := by
    intro e11 he11
    have he01 : e11 = 0 ∨ e11 = 1 := by rw [he11]; split <;> omega
    refine vv_aload_n X 0 rfl rfl dL_same_429 ?_
    refine vv_iconst (n := 0) X dL_same_430 ?_
    refine vv_callVI (As := [.int (zI 0)]) (st := []) (Nf := 9) X 1 (c_X8_mean l D cA had N404 0 (by omega) (RLL_q hR EN404).2.1) gL_same_X8_mean rfl (by decide +kernel) ⟨by decide, by decide⟩ (Nat.le_of_ble_eq_true rfl) ⟨by decide, by decide⟩ rfl (by decide) sh_90 rfl rfl dL_same_431 (fun z431 Mc431 q_431 => ?_)
    obtain ⟨Q431, F431⟩ := q_431
    have E431 : eqx M Mc431 E9 := eqx_tr EN404 (eqx_mono F431 (by decide))
    have e_z431 : z431 = mA + 10000000 := by
      have q := S_mean0 hR EN404 Q431
      rw [← hmA] at q
      exact q
    refine vv_iload X 9 rfl dL_same_434 ?_
    refine vv_ldc (n := 10000000) (v := 10000000) X (by decide +kernel) (by decide) dL_same_436 ?_
    refine vv_iadd X dL_same_438 ?_
    refine vv_icmp_ne (tgt := 525) X (by omega) (by omega) dL_same_439 (by decide) (fun c_439 => ?_) (fun c_439 => ?_)
    · skip
      omega
    · skip
      refine vv_aload_n X 0 rfl rfl dL_same_442 ?_
      refine vv_iconst (n := 1) X dL_same_443 ?_
      refine vv_callVI (As := [.int (zI 1)]) (st := []) (Nf := 9) X 1 (c_X8_mean l D cA had Mc431 1 (by omega) (RLL_q hR E431).2.1) gL_same_X8_mean rfl (by decide +kernel) ⟨by decide, by decide⟩ (Nat.le_of_ble_eq_true rfl) ⟨by decide, by decide⟩ rfl (by decide) sh_90 rfl rfl dL_same_444 (fun z444 Mc444 q_444 => ?_)
      obtain ⟨Q444, F444⟩ := q_444
      have E444 : eqx M Mc444 E9 := eqx_tr E431 (eqx_mono F444 (by decide))
      have e_z444 : z444 = mB := by
        have q := S_mean1 hR E431 Q444
        rw [← hmB] at q
        exact q
      refine vv_iload X 10 rfl dL_same_447 ?_
      refine vv_icmp_ne (tgt := 525) X (by omega) (by omega) dL_same_449 (by decide) (fun c_449 => ?_) (fun c_449 => ?_)
      · skip
        omega
      · skip
        refine vv_aload_n X 0 rfl rfl dL_same_452 ?_
        refine vv_aload_n X 2 rfl rfl dL_same_453 ?_
        refine vv_iconst (n := 2) X dL_same_454 ?_
        refine vv_iald (z := (M 105 2)) X (by decide) sh_105 (by decide) (by omega) (show Mc444 105 2 = M 105 2 from by rw [(E444 105 (by decide))]) dL_same_455 ?_
        refine vv_iconst (n := 0) X dL_same_456 ?_
        refine vv_callVI (As := [.int (zI (M 105 2)), .int (zI 0)]) (st := []) (Nf := 9) X 2 (c_X8_part l D cA had Mc444 (M 105 2) 0 (by omega) (by omega) (RLL_q hR E444).2.1) gL_same_X8_part rfl (by decide +kernel) ⟨by decide, by decide⟩ (Nat.le_of_ble_eq_true rfl) ⟨by decide, by decide⟩ rfl (by decide) sh_90 rfl rfl dL_same_457 (fun z457 Mc457 q_457 => ?_)
        obtain ⟨Q457, F457⟩ := q_457
        have E457 : eqx M Mc457 E9 := eqx_tr E444 (eqx_mono F457 (by decide))
        have e_z457 : z457 = -1 := S_partN hR E444 (by omega) Q457
        refine vv_iconst (n := (-1)) X dL_same_460 ?_
        refine vv_icmp_ne (tgt := 525) X (by omega) (by omega) dL_same_461 (by decide) (fun c_461 => ?_) (fun c_461 => ?_)
        · skip
          omega
        · skip
          refine vv_aload_n X 0 rfl rfl dL_same_464 ?_
          refine vv_iconst (n := 0) X dL_same_465 ?_
          refine vv_callVI (As := [.int (zI 0)]) (st := []) (Nf := 9) X 1 (c_X8_count l D cA had Mc457 0 (by omega) (RLL_q hR E457).2.1) gL_same_X8_count rfl (by decide +kernel) ⟨by decide, by decide⟩ (Nat.le_of_ble_eq_true rfl) ⟨by decide, by decide⟩ rfl (by decide) sh_90 rfl rfl dL_same_466 (fun z466 Mc466 q_466 => ?_)
          obtain ⟨Q466, _, _, F466⟩ := q_466
          have E466 : eqx M Mc466 E9 := eqx_tr E457 (eqx_mono F466 (by decide))
          have e_z466 : z466 = M 105 0 := S_cnt0 hR E457 Q466
          refine vv_aload_n X 2 rfl rfl dL_same_469 ?_
          refine vv_iconst (n := 0) X dL_same_470 ?_
          refine vv_iald (z := (M 105 0)) X (by decide) sh_105 (by decide) (by omega) (show Mc466 105 0 = M 105 0 from by rw [(E466 105 (by decide))]) dL_same_471 ?_
          refine vv_icmp_ne (tgt := 525) X (by omega) (by omega) dL_same_472 (by decide) (fun c_472 => ?_) (fun c_472 => ?_)
          · skip
            omega
          · skip
            refine vv_aload_n X 0 rfl rfl dL_same_475 ?_
            refine vv_iconst (n := 1) X dL_same_476 ?_
            refine vv_callVI (As := [.int (zI 1)]) (st := []) (Nf := 9) X 1 (c_X8_count l D cA had Mc466 1 (by omega) (RLL_q hR E466).2.1) gL_same_X8_count rfl (by decide +kernel) ⟨by decide, by decide⟩ (Nat.le_of_ble_eq_true rfl) ⟨by decide, by decide⟩ rfl (by decide) sh_90 rfl rfl dL_same_477 (fun z477 Mc477 q_477 => ?_)
            obtain ⟨Q477, _, _, F477⟩ := q_477
            have E477 : eqx M Mc477 E9 := eqx_tr E466 (eqx_mono F477 (by decide))
            have e_z477 : z477 = M 105 1 := S_cnt1 hR E466 Q477
            refine vv_aload_n X 2 rfl rfl dL_same_480 ?_
            refine vv_iconst (n := 1) X dL_same_481 ?_
            refine vv_iald (z := (M 105 1)) X (by decide) sh_105 (by decide) (by omega) (show Mc477 105 1 = M 105 1 from by rw [(E477 105 (by decide))]) dL_same_482 ?_
            refine vv_icmp_ne (tgt := 525) X (by omega) (by omega) dL_same_483 (by decide) (fun c_483 => ?_) (fun c_483 => ?_)
            · skip
              omega
            · skip
              refine vv_aload_n X 0 rfl rfl dL_same_486 ?_
              refine vv_iconst (n := 2) X dL_same_487 ?_
              refine vv_callVI (As := [.int (zI 2)]) (st := []) (Nf := 9) X 1 (c_X8_count l D cA had Mc477 2 (by omega) (RLL_q hR E477).2.1) gL_same_X8_count rfl (by decide +kernel) ⟨by decide, by decide⟩ (Nat.le_of_ble_eq_true rfl) ⟨by decide, by decide⟩ rfl (by decide) sh_90 rfl rfl dL_same_488 (fun z488 Mc488 q_488 => ?_)
              obtain ⟨Q488, _, _, F488⟩ := q_488
              have E488 : eqx M Mc488 E9 := eqx_tr E477 (eqx_mono F488 (by decide))
              have e_z488 : z488 = M 105 2 := S_cnt2 hR E477 Q488
              refine vv_aload_n X 2 rfl rfl dL_same_491 ?_
              refine vv_iconst (n := 2) X dL_same_492 ?_
              refine vv_iald (z := (M 105 2)) X (by decide) sh_105 (by decide) (by omega) (show Mc488 105 2 = M 105 2 from by rw [(E488 105 (by decide))]) dL_same_493 ?_
              refine vv_icmp_ne (tgt := 525) X (by omega) (by omega) dL_same_494 (by decide) (fun c_494 => ?_) (fun c_494 => ?_)
              · skip
                omega
              · skip
                refine vv_aload_n X 0 rfl rfl dL_same_497 ?_
                refine vv_iconst (n := 3) X dL_same_498 ?_
                refine vv_callVI (As := [.int (zI 3)]) (st := []) (Nf := 9) X 1 (c_X8_count l D cA had Mc488 3 (by omega) (RLL_q hR E488).2.1) gL_same_X8_count rfl (by decide +kernel) ⟨by decide, by decide⟩ (Nat.le_of_ble_eq_true rfl) ⟨by decide, by decide⟩ rfl (by decide) sh_90 rfl rfl dL_same_499 (fun z499 Mc499 q_499 => ?_)
                obtain ⟨Q499, _, _, F499⟩ := q_499
                have E499 : eqx M Mc499 E9 := eqx_tr E488 (eqx_mono F499 (by decide))
                have e_z499 : z499 = a7 := by rw [e7]; exact S_cnt3 hR E488 Q499
                refine vv_iload X 7 rfl dL_same_502 ?_
                refine vv_icmp_ne (tgt := 525) X (by omega) (by omega) dL_same_504 (by decide) (fun c_504 => ?_) (fun c_504 => ?_)
                · skip
                  omega
                · skip
                  refine vv_aload_n X 0 rfl rfl dL_same_507 ?_
                  refine vv_iconst (n := 4) X dL_same_508 ?_
                  refine vv_callVI (As := [.int (zI 4)]) (st := []) (Nf := 9) X 1 (c_X8_count l D cA had Mc499 4 (by omega) (RLL_q hR E499).2.1) gL_same_X8_count rfl (by decide +kernel) ⟨by decide, by decide⟩ (Nat.le_of_ble_eq_true rfl) ⟨by decide, by decide⟩ rfl (by decide) sh_90 rfl rfl dL_same_509 (fun z509 Mc509 q_509 => ?_)
                  obtain ⟨Q509, _, _, F509⟩ := q_509
                  have E509 : eqx M Mc509 E9 := eqx_tr E499 (eqx_mono F509 (by decide))
                  have e_z509 : z509 = e11 := S_cnt4 hR E499 Q509 hB400 (by rw [he11, hmA, hmB])
                  refine vv_iload X 11 rfl dL_same_512 ?_
                  refine vv_if_eq (tgt := 521) X (by omega) dL_same_514 (by decide) (fun c_514 => ?_) (fun c_514 => ?_)
                  · skip
                    refine vv_iconst (n := 0) X dL_same_521 ?_
                    refine vv_icmp_eq (tgt := 527) X (by omega) (by omega) dL_same_522 (by decide) (fun c_522 => ?_) (fun c_522 => ?_)
                    · skip
                      refine vv_sub (lv' := [(0, .ref (ad 90)), (1, .int (zI x)), (2, .ref (ad 105)), (3, .ref (ad 106)), (4, .ref (ad 107)), (5, .ref (ad 108)), (6, .ref (ad 109))]) [0, 1, 2, 3, 4, 5, 6] rfl ?_
                      exact nx Mc509 E509
                    · skip
                      omega
                  · skip
                    refine vv_iconst (n := 1) X dL_same_517 ?_
                    refine vv_goto (tgt := 522) X (by decide) dL_same_518 ?_
                    refine vv_icmp_eq (tgt := 527) X (by omega) (by omega) dL_same_522 (by decide) (fun c_522 => ?_) (fun c_522 => ?_)
                    · skip
                      refine vv_sub (lv' := [(0, .ref (ad 90)), (1, .int (zI x)), (2, .ref (ad 105)), (3, .ref (ad 106)), (4, .ref (ad 107)), (5, .ref (ad 108)), (6, .ref (ad 109))]) [0, 1, 2, 3, 4, 5, 6] rfl ?_
                      exact nx Mc509 E509
                    · skip
                      omega
  refine vv_aload X 8 rfl dL_same_406 ?_
  refine vv_iconst (n := 0) X dL_same_408 ?_
  refine vv_iald (z := (N404 109 0)) X (by decide) sh_109 (by decide) (by omega) (rfl) dL_same_409 ?_
  refine vv_icmp_ne (tgt := 426) X (by omega) (by omega) dL_same_410 (by decide) (fun c_410 => ?_) (fun c_410 => ?_)
  · skip
    refine vv_iconst (n := 0) X dL_same_426 ?_
    refine vv_istore (lv' := [(11, .int (zI 0)), (10, .int (zI mB)), (9, .int (zI mA)), (0, .ref (ad 90)), (1, .int (zI x)), (2, .ref (ad 105)), (3, .ref (ad 106)), (4, .ref (ad 107)), (5, .ref (ad 108)), (6, .ref (ad 109)), (7, .int (zI a7)), (8, .int (zI a8))]) X (by decide) rfl dL_same_427 ?_
    refine vv_sub (lv' := [(0, .ref (ad 90)), (1, .int (zI x)), (2, .ref (ad 105)), (3, .ref (ad 106)), (4, .ref (ad 107)), (5, .ref (ad 108)), (6, .ref (ad 109)), (7, .int (zI a7)), (8, .int (zI a8)), (9, .int (zI mA)), (10, .int (zI mB)), (11, .int (zI 0))]) [3, 4, 5, 6, 7, 8, 9, 10, 11, 2, 1, 0] rfl ?_
    exact join_429 0 (by rw [← f404a, ← f404b]; first | rw [if_pos ⟨by omega, by omega⟩] | rw [if_neg (fun q => by have q1 := q.1; have q2 := q.2; omega)])
  · skip
    refine vv_iload X 0 rfl dL_same_413 ?_
    refine vv_aload X 8 rfl dL_same_415 ?_
    refine vv_iconst (n := 1) X dL_same_417 ?_
    refine vv_iald (z := (N404 109 1)) X (by decide) sh_109 (by decide) (by omega) (rfl) dL_same_418 ?_
    refine vv_icmp_ne (tgt := 426) X (by omega) (by omega) dL_same_419 (by decide) (fun c_419 => ?_) (fun c_419 => ?_)
    · skip
      refine vv_iconst (n := 0) X dL_same_426 ?_
      refine vv_istore (lv' := [(11, .int (zI 0)), (10, .int (zI mB)), (9, .int (zI mA)), (0, .ref (ad 90)), (1, .int (zI x)), (2, .ref (ad 105)), (3, .ref (ad 106)), (4, .ref (ad 107)), (5, .ref (ad 108)), (6, .ref (ad 109)), (7, .int (zI a7)), (8, .int (zI a8))]) X (by decide) rfl dL_same_427 ?_
      refine vv_sub (lv' := [(0, .ref (ad 90)), (1, .int (zI x)), (2, .ref (ad 105)), (3, .ref (ad 106)), (4, .ref (ad 107)), (5, .ref (ad 108)), (6, .ref (ad 109)), (7, .int (zI a7)), (8, .int (zI a8)), (9, .int (zI mA)), (10, .int (zI mB)), (11, .int (zI 0))]) [3, 4, 5, 6, 7, 8, 9, 10, 11, 2, 1, 0] rfl ?_
      exact join_429 0 (by rw [← f404a, ← f404b]; first | rw [if_pos ⟨by omega, by omega⟩] | rw [if_neg (fun q => by have q1 := q.1; have q2 := q.2; omega)])
    · skip
      refine vv_iconst (n := 1) X dL_same_422 ?_
      refine vv_goto (tgt := 427) X (by decide) dL_same_423 ?_
      refine vv_istore (lv' := [(11, .int (zI 1)), (10, .int (zI mB)), (9, .int (zI mA)), (0, .ref (ad 90)), (1, .int (zI x)), (2, .ref (ad 105)), (3, .ref (ad 106)), (4, .ref (ad 107)), (5, .ref (ad 108)), (6, .ref (ad 109)), (7, .int (zI a7)), (8, .int (zI a8))]) X (by decide) rfl dL_same_427 ?_
      refine vv_sub (lv' := [(0, .ref (ad 90)), (1, .int (zI x)), (2, .ref (ad 105)), (3, .ref (ad 106)), (4, .ref (ad 107)), (5, .ref (ad 108)), (6, .ref (ad 109)), (7, .int (zI a7)), (8, .int (zI a8)), (9, .int (zI mA)), (10, .int (zI mB)), (11, .int (zI 1))]) [3, 4, 5, 6, 7, 8, 9, 10, 11, 2, 1, 0] rfl ?_
      exact join_429 1 (by rw [← f404a, ← f404b]; first | rw [if_pos ⟨by omega, by omega⟩] | rw [if_neg (fun q => by have q1 := q.1; have q2 := q.2; omega)])
set_option maxRecDepth 100000 in
set_option maxHeartbeats 4000000 in
theorem same_D {p : Program} {l : Launch} {e : Env} {s : State} {m : MethodId} {args : Array Value} {below : List Frame} {meth : Method} {c : Code} {D : va_G} {ad : Nat → Nat} {cA : Nat → ClassId} (X : Cx p s m args c cL_same yL_same.cls 17 wsL_same D ad cA (Afr ad s.heap.size)) (hm : Mt meth (some .boolean)) {x : Int} (hx : -2147483648 ≤ x ∧ x ≤ 2147483647) (M Ms : Mem) (hR : RLL M) (hs : eqx M Ms E9) : VV p l e { frames := 6, cells := 0, slots := 0, locals := 133 } s m args below meth c 17 D ad cA (Afr ad s.heap.size) 0 0 (QI below args s D ad cA (fun z M1 => z = 1 ∧ eqx M M1 E9)) Ms 527 [(0, .ref (ad 90)), (1, .int (zI x)), (2, .ref (ad 105)), (3, .ref (ad 106)), (4, .ref (ad 107)), (5, .ref (ad 108)), (6, .ref (ad 109))] [] := by
  have had := X.2.2.2.1
  have hwl := RLL_wl hR
  have hW : rWR M := hwl.2.1
  have h5 := hW.2.1
  have h50 := hW.1
  have hsm : 1 ≤ M 105 2 ∧ M 105 2 ≤ 6 := WFs_pos hwl.2.2
  have hwb : ∀ k : Nat, (k : Int) < M 105 2 → (1 ≤ M 107 k ∧ M 107 k ≤ 999) ∧ (0 ≤ M 108 k ∧ M 108 k ≤ 100) := fun k hk => WFs_b hwl.2.2 hk
  have hp9 : 1 ≤ M 105 0 ∧ M 105 0 ≤ 99 := hwl.1
  have hvb : ∀ y : Int, -495 ≤ rvl M y ∧ rvl M y ≤ 990 := fun y => vl_b hW.2
  refine vv_iload_n X 1 rfl rfl dL_same_527 ?_
  refine vv_bipush (n := 101) X (by decide) dL_same_528 ?_
  refine vv_callSI (As := [.int (zI x), .int (zI 101)]) (st := []) X 2 (c_L_low l D cA had Ms x 101 (by omega)) gL_same_L_low rfl (by decide +kernel) ⟨by decide, by decide⟩ (Nat.le_of_ble_eq_true rfl) ⟨by decide, by decide⟩ rfl rfl dL_same_530 (fun z530 Mc530 q_530 => ?_)
  obtain ⟨e_z530, g_z530⟩ := q_530
  have g_z530 := g_z530.symm
  subst g_z530
  refine vv_istore (lv' := [(12, .int (zI z530)), (0, .ref (ad 90)), (1, .int (zI x)), (2, .ref (ad 105)), (3, .ref (ad 106)), (4, .ref (ad 107)), (5, .ref (ad 108)), (6, .ref (ad 109))]) X (by decide) rfl dL_same_533 ?_
  refine vv_iload X 0 rfl dL_same_535 ?_
  refine vv_aload_n X 3 rfl rfl dL_same_537 ?_
  refine vv_aload_n X 4 rfl rfl dL_same_538 ?_
  refine vv_aload X 7 rfl dL_same_539 ?_
  refine vv_callSI (As := [.int (zI z530), .ref (ad 105), .ref (ad 106), .ref (ad 109)]) (st := []) X 4 (c_L_envelope l D cA had Ms z530 (by omega) (W_E9 hW hs)) gL_same_L_envelope rfl (by decide +kernel) ⟨by decide, by decide⟩ (Nat.le_of_ble_eq_true rfl) ⟨by decide, by decide⟩ rfl rfl dL_same_541 (fun z541 Mc541 q_541 => ?_)
  obtain ⟨lo541, hi541, hB541, e_z541, q_541⟩ := q_541
  have q_541 := q_541.symm
  subst q_541
  obtain ⟨N544, h_N544⟩ : ∃ N : Mem, N = (up2 (up2 Ms 109 0 (frA (sN (rvl Ms) z530 lo541 hi541) (sD lo541 hi541))) 109 1 (frB (sN (rvl Ms) z530 lo541 hi541) (sD lo541 hi541))) := ⟨_, rfl⟩
  rw [← h_N544]
  have EN544 : eqx M N544 E9 := by rw [h_N544]; exact eqx_up _ _ (eqx_up _ _ hs (by decide)) (by decide)
  rw [rvl_E9 hs] at hB541 h_N544
  have f544a : N544 109 0 = frA (sN (rvl M) z530 lo541 hi541) (sD lo541 hi541) := by rw [h_N544]; rfl
  have f544b : N544 109 1 = frB (sN (rvl M) z530 lo541 hi541) (sD lo541 hi541) := by rw [h_N544]; rfl
  have hd541 := sD_b (show 0 ≤ z530 ∧ z530 ≤ 100 by omega) hB541.1
  have hfe5 := fr_b2 (a := sN (rvl M) z530 lo541 hi541) (b := sD lo541 hi541) (A := 198000) (sN_b hvb (by omega) hB541.1) (sD_pos hB541.1)
  obtain ⟨hl541, hh541⟩ := okS_rng hB541.1 (show 0 ≤ z530 ∧ z530 ≤ 100 by omega)
  have hv530 := hvb z530
  refine vv_istore (lv' := [(13, .int (zI z541)), (12, .int (zI z530)), (0, .ref (ad 90)), (1, .int (zI x)), (2, .ref (ad 105)), (3, .ref (ad 106)), (4, .ref (ad 107)), (5, .ref (ad 108)), (6, .ref (ad 109))]) X (by decide) rfl dL_same_544 ?_
  refine vv_iload X 0 rfl dL_same_546 ?_
  refine vv_sipush (n := 1000) X (by decide) dL_same_548 ?_
  refine vv_irem X (by omega) (by omega) (by omega) dL_same_551 ?_
  rw [show (Int.tmod z541 1000) = lo541 from by rw [e_z541, Int.tmod_eq_emod_of_nonneg (by omega)]; omega]
  refine vv_istore (lv' := [(14, .int (zI lo541)), (13, .int (zI z541)), (12, .int (zI z530)), (0, .ref (ad 90)), (1, .int (zI x)), (2, .ref (ad 105)), (3, .ref (ad 106)), (4, .ref (ad 107)), (5, .ref (ad 108)), (6, .ref (ad 109))]) X (by decide) rfl dL_same_552 ?_
  refine vv_iload X 1 rfl dL_same_554 ?_
  refine vv_sipush (n := 1000) X (by decide) dL_same_556 ?_
  refine vv_idiv X (by omega) (by omega) (by omega) dL_same_559 ?_
  rw [show (Int.tdiv z541 1000) = hi541 from by rw [e_z541, Int.tdiv_eq_ediv_of_nonneg (by omega)]; omega]
  refine vv_istore (lv' := [(15, .int (zI hi541)), (14, .int (zI lo541)), (13, .int (zI z541)), (12, .int (zI z530)), (0, .ref (ad 90)), (1, .int (zI x)), (2, .ref (ad 105)), (3, .ref (ad 106)), (4, .ref (ad 107)), (5, .ref (ad 108)), (6, .ref (ad 109))]) X (by decide) rfl dL_same_560 ?_
  refine vv_iload X 1 rfl dL_same_562 ?_
  refine vv_iload X 0 rfl dL_same_564 ?_
  refine vv_icmp_ne (tgt := 573) X (by omega) (by omega) dL_same_566 (by decide) (fun c_566 => ?_) (fun c_566 => ?_)
  · skip
    have hlx : lo541 < z530 ∧ z530 < hi541 := by rcases hB541.1 with q | q <;> omega
    have hg1 := Int.gcd_pos_of_ne_zero_left (z530 - lo541) (show hi541 - z530 ≠ 0 by omega)
    have hg2 : (Int.gcd (hi541 - z530) (z530 - lo541) : Int) ≤ hi541 - z530 := Int.le_of_dvd (by omega) (Int.gcd_dvd_left _ _)
    refine vv_iload X 0 rfl dL_same_573 ?_
    refine vv_iload X 3 rfl dL_same_575 ?_
    refine vv_isub X dL_same_577 ?_
    refine vv_iload X 3 rfl dL_same_578 ?_
    refine vv_iload X 1 rfl dL_same_580 ?_
    refine vv_isub X dL_same_582 ?_
    refine vv_callSI (As := [.int (zI (hi541 - z530)), .int (zI (z530 - lo541))]) (st := []) X 2 (c_L_gcd l D cA had N544 (hi541 - z530) (z530 - lo541) (by omega) (by omega)) gL_same_L_gcd rfl (by decide +kernel) ⟨by decide, by decide⟩ (Nat.le_of_ble_eq_true rfl) ⟨by decide, by decide⟩ rfl rfl dL_same_583 (fun z583 Mc583 q_583 => ?_)
    obtain ⟨e_z583, g_z583⟩ := q_583
    have g_z583 := g_z583.symm
    subst g_z583
    refine vv_istore (lv' := [(16, .int (zI z583)), (15, .int (zI hi541)), (14, .int (zI lo541)), (13, .int (zI z541)), (12, .int (zI z530)), (0, .ref (ad 90)), (1, .int (zI x)), (2, .ref (ad 105)), (3, .ref (ad 106)), (4, .ref (ad 107)), (5, .ref (ad 108)), (6, .ref (ad 109))]) X (by decide) rfl dL_same_586 ?_
    refine vv_aload_n X 5 rfl rfl dL_same_588 ?_
    refine vv_iload X 4 rfl dL_same_589 ?_
    refine vv_callVI (As := [.int (zI z530)]) (st := []) (Nf := 9) X 1 (c_X8_value l D cA had N544 z530 (by omega) (RLL_q hR EN544).2.1) gL_same_X8_value rfl (by decide +kernel) ⟨by decide, by decide⟩ (Nat.le_of_ble_eq_true rfl) ⟨by decide, by decide⟩ rfl (by decide) sh_90 rfl rfl dL_same_591 (fun z591 Mc591 q_591 => ?_)
    obtain ⟨Q591, F591⟩ := q_591
    have E591 : eqx M Mc591 E9 := eqx_tr EN544 (eqx_mono F591 (by decide))
    have e_z591 : z591 = rvl M z530 + 1000 := S_val hR EN544 (by omega) Q591
    refine vv_iload X 4 rfl dL_same_594 ?_
    refine vv_aload_n X 7 rfl rfl dL_same_596 ?_
    refine vv_aload_n X 8 rfl rfl dL_same_597 ?_
    refine vv_callSI (As := [.int (zI z530), .ref (ad 105), .ref (ad 106)]) (st := [.int (zI z591)]) X 3 (c_L_value l D cA had Mc591 z530 (by omega) (W_E9 hW E591)) gL_same_L_value rfl (by decide +kernel) ⟨by decide, by decide⟩ (Nat.le_of_ble_eq_true rfl) ⟨by decide, by decide⟩ rfl rfl dL_same_598 (fun z598 Mc598 q_598 => ?_)
    obtain ⟨e_z598, g_z598⟩ := q_598
    have g_z598 := g_z598.symm
    subst g_z598
    rw [rvl_E9 E591] at e_z598
    refine vv_sipush (n := 1000) X (by decide) dL_same_601 ?_
    refine vv_iadd X dL_same_604 ?_
    refine vv_icmp_ne (tgt := 725) X (by omega) (by omega) dL_same_605 (by decide) (fun c_605 => ?_) (fun c_605 => ?_)
    · skip
      omega
    · skip
      refine vv_aload_n X 5 rfl rfl dL_same_608 ?_
      refine vv_iload X 4 rfl dL_same_609 ?_
      refine vv_iconst (n := 0) X dL_same_611 ?_
      refine vv_callVI (As := [.int (zI z530), .int (zI 0)]) (st := []) (Nf := 9) X 2 (c_X8_envelope l D cA had Mc591 z530 0 (by omega) (by omega) (RLL_q hR E591).2.1) gL_same_X8_envelope rfl (by decide +kernel) ⟨by decide, by decide⟩ (Nat.le_of_ble_eq_true rfl) ⟨by decide, by decide⟩ rfl (by decide) sh_90 rfl rfl dL_same_612 (fun z612 Mc612 q_612 => ?_)
      obtain ⟨Q612, F612⟩ := q_612
      have E612 : eqx M Mc612 E9 := eqx_tr E591 (eqx_mono F612 (by decide))
      have e_z612 : z612 = frA (sN (rvl M) z530 lo541 hi541) (sD lo541 hi541) + 10000000 := S_env0 hR E591 (by omega) hB541 Q612
      refine vv_aload X 11 rfl dL_same_615 ?_
      refine vv_iconst (n := 0) X dL_same_617 ?_
      refine vv_iald (z := (N544 109 0)) X (by decide) sh_109 (by decide) (by omega) (show Mc612 109 0 = N544 109 0 from by rw [((F612 109 (by decide)).trans ((F591 109 (by decide)).trans rfl))]) dL_same_618 ?_
      refine vv_ldc (n := 10000000) (v := 10000000) X (by decide +kernel) (by decide) dL_same_619 ?_
      refine vv_iadd X dL_same_621 ?_
      refine vv_icmp_ne (tgt := 725) X (by omega) (by omega) dL_same_622 (by decide) (fun c_622 => ?_) (fun c_622 => ?_)
      · skip
        omega
      · skip
        refine vv_aload_n X 5 rfl rfl dL_same_625 ?_
        refine vv_iload X 4 rfl dL_same_626 ?_
        refine vv_iconst (n := 1) X dL_same_628 ?_
        refine vv_callVI (As := [.int (zI z530), .int (zI 1)]) (st := []) (Nf := 9) X 2 (c_X8_envelope l D cA had Mc612 z530 1 (by omega) (by omega) (RLL_q hR E612).2.1) gL_same_X8_envelope rfl (by decide +kernel) ⟨by decide, by decide⟩ (Nat.le_of_ble_eq_true rfl) ⟨by decide, by decide⟩ rfl (by decide) sh_90 rfl rfl dL_same_629 (fun z629 Mc629 q_629 => ?_)
        obtain ⟨Q629, F629⟩ := q_629
        have E629 : eqx M Mc629 E9 := eqx_tr E612 (eqx_mono F629 (by decide))
        have e_z629 : z629 = frB (sN (rvl M) z530 lo541 hi541) (sD lo541 hi541) := S_env1 hR E612 (by omega) hB541 Q629
        refine vv_aload X 11 rfl dL_same_632 ?_
        refine vv_iconst (n := 1) X dL_same_634 ?_
        refine vv_iald (z := (N544 109 1)) X (by decide) sh_109 (by decide) (by omega) (show Mc629 109 1 = N544 109 1 from by rw [((F629 109 (by decide)).trans ((F612 109 (by decide)).trans ((F591 109 (by decide)).trans rfl)))]) dL_same_635 ?_
        refine vv_icmp_ne (tgt := 725) X (by omega) (by omega) dL_same_636 (by decide) (fun c_636 => ?_) (fun c_636 => ?_)
        · skip
          omega
        · skip
          refine vv_aload_n X 5 rfl rfl dL_same_639 ?_
          refine vv_iload X 4 rfl dL_same_640 ?_
          refine vv_iconst (n := 0) X dL_same_642 ?_
          refine vv_callVI (As := [.int (zI z530), .int (zI 0)]) (st := []) (Nf := 9) X 2 (c_X8_best l D cA had Mc629 z530 0 (by omega) (by omega) (RLL_q hR E629).2.1) gL_same_X8_best rfl (by decide +kernel) ⟨by decide, by decide⟩ (Nat.le_of_ble_eq_true rfl) ⟨by decide, by decide⟩ rfl (by decide) sh_90 rfl rfl dL_same_643 (fun z643 Mc643 q_643 => ?_)
          obtain ⟨Q643, F643⟩ := q_643
          have E643 : eqx M Mc643 E9 := eqx_tr E629 (eqx_mono F643 (by decide))
          have e_z643 : z643 = lo541 := S_bst0 hR E629 (by omega) hB541 Q643
          refine vv_iload X 2 rfl dL_same_646 ?_
          refine vv_icmp_ne (tgt := 725) X (by omega) (by omega) dL_same_648 (by decide) (fun c_648 => ?_) (fun c_648 => ?_)
          · skip
            omega
          · skip
            refine vv_aload_n X 5 rfl rfl dL_same_651 ?_
            refine vv_iload X 4 rfl dL_same_652 ?_
            refine vv_iconst (n := 1) X dL_same_654 ?_
            refine vv_callVI (As := [.int (zI z530), .int (zI 1)]) (st := []) (Nf := 9) X 2 (c_X8_best l D cA had Mc643 z530 1 (by omega) (by omega) (RLL_q hR E643).2.1) gL_same_X8_best rfl (by decide +kernel) ⟨by decide, by decide⟩ (Nat.le_of_ble_eq_true rfl) ⟨by decide, by decide⟩ rfl (by decide) sh_90 rfl rfl dL_same_655 (fun z655 Mc655 q_655 => ?_)
            obtain ⟨Q655, F655⟩ := q_655
            have E655 : eqx M Mc655 E9 := eqx_tr E643 (eqx_mono F655 (by decide))
            have e_z655 : z655 = hi541 := S_bst1 hR E643 (by omega) hB541 Q655
            refine vv_iload X 1 rfl dL_same_658 ?_
            refine vv_icmp_ne (tgt := 725) X (by omega) (by omega) dL_same_660 (by decide) (fun c_660 => ?_) (fun c_660 => ?_)
            · skip
              omega
            · skip
              refine vv_aload_n X 5 rfl rfl dL_same_663 ?_
              refine vv_iload X 4 rfl dL_same_664 ?_
              refine vv_iconst (n := 2) X dL_same_666 ?_
              refine vv_callVI (As := [.int (zI z530), .int (zI 2)]) (st := []) (Nf := 9) X 2 (c_X8_best l D cA had Mc655 z530 2 (by omega) (by omega) (RLL_q hR E655).2.1) gL_same_X8_best rfl (by decide +kernel) ⟨by decide, by decide⟩ (Nat.le_of_ble_eq_true rfl) ⟨by decide, by decide⟩ rfl (by decide) sh_90 rfl rfl dL_same_667 (fun z667 Mc667 q_667 => ?_)
              obtain ⟨Q667, F667⟩ := q_667
              have E667 : eqx M Mc667 E9 := eqx_tr E655 (eqx_mono F667 (by decide))
              have e_z667 : z667 = wLo z530 lo541 hi541 := S_bst2 hR E655 (by omega) hB541 Q667
              have wl9 := wLo_b hB541.1 (show 0 ≤ z530 ∧ z530 ≤ 100 by omega)
              refine vv_iload X 2 rfl dL_same_670 ?_
              refine vv_iload X 1 rfl dL_same_672 ?_
              refine vv_icmp_ne (tgt := 681) X (by omega) (by omega) dL_same_674 (by decide) (fun c_674 => ?_) (fun c_674 => ?_)
              · skip
                refine vv_iload X 1 rfl dL_same_681 ?_
                refine vv_iload X 4 rfl dL_same_683 ?_
                refine vv_isub X dL_same_685 ?_
                refine vv_iload X 0 rfl dL_same_686 ?_
                refine vv_idiv X (by omega) (by omega) (by omega) dL_same_688 ?_
                have hw2 : wLo z530 lo541 hi541 = (hi541 - z530).tdiv z583 := by rw [e_z583]; exact if_neg (by omega)
                refine vv_icmp_ne (tgt := 725) X (by omega) (by omega) dL_same_689 (by decide) (fun c_689 => ?_) (fun c_689 => ?_)
                · skip
                  omega
                · skip
                  refine vv_aload_n X 5 rfl rfl dL_same_692 ?_
                  refine vv_iload X 4 rfl dL_same_693 ?_
                  refine vv_iconst (n := 3) X dL_same_695 ?_
                  refine vv_callVI (As := [.int (zI z530), .int (zI 3)]) (st := []) (Nf := 9) X 2 (c_X8_best l D cA had Mc667 z530 3 (by omega) (by omega) (RLL_q hR E667).2.1) gL_same_X8_best rfl (by decide +kernel) ⟨by decide, by decide⟩ (Nat.le_of_ble_eq_true rfl) ⟨by decide, by decide⟩ rfl (by decide) sh_90 rfl rfl dL_same_696 (fun z696 Mc696 q_696 => ?_)
                  obtain ⟨Q696, F696⟩ := q_696
                  have E696 : eqx M Mc696 E9 := eqx_tr E667 (eqx_mono F696 (by decide))
                  have e_z696 : z696 = wHi z530 lo541 hi541 := S_bst3 hR E667 (by omega) hB541 Q696
                  have wh9 := wHi_b hB541.1 (show 0 ≤ z530 ∧ z530 ≤ 100 by omega)
                  refine vv_iload X 2 rfl dL_same_699 ?_
                  refine vv_iload X 1 rfl dL_same_701 ?_
                  refine vv_icmp_ne (tgt := 710) X (by omega) (by omega) dL_same_703 (by decide) (fun c_703 => ?_) (fun c_703 => ?_)
                  · skip
                    refine vv_iload X 4 rfl dL_same_710 ?_
                    refine vv_iload X 2 rfl dL_same_712 ?_
                    refine vv_isub X dL_same_714 ?_
                    refine vv_iload X 0 rfl dL_same_715 ?_
                    refine vv_idiv X (by omega) (by omega) (by omega) dL_same_717 ?_
                    have hw3 : wHi z530 lo541 hi541 = (z530 - lo541).tdiv z583 := by rw [e_z583]; exact if_neg (by omega)
                    refine vv_icmp_ne (tgt := 725) X (by omega) (by omega) dL_same_718 (by decide) (fun c_718 => ?_) (fun c_718 => ?_)
                    · skip
                      omega
                    · skip
                      refine vv_iconst (n := 1) X dL_same_721 ?_
                      refine vv_goto (tgt := 726) X (by decide) dL_same_722 ?_
                      exact vv_zret X hm (by omega) (⟨rfl, E696⟩) dL_same_726
                  · skip
                    omega
              · skip
                omega
  · skip
    refine vv_iconst (n := 1) X dL_same_569 ?_
    refine vv_goto (tgt := 586) X (by decide) dL_same_570 ?_
    refine vv_istore (lv' := [(16, .int (zI 1)), (15, .int (zI hi541)), (14, .int (zI lo541)), (13, .int (zI z541)), (12, .int (zI z530)), (0, .ref (ad 90)), (1, .int (zI x)), (2, .ref (ad 105)), (3, .ref (ad 106)), (4, .ref (ad 107)), (5, .ref (ad 108)), (6, .ref (ad 109))]) X (by decide) rfl dL_same_586 ?_
    refine vv_aload_n X 5 rfl rfl dL_same_588 ?_
    refine vv_iload X 4 rfl dL_same_589 ?_
    refine vv_callVI (As := [.int (zI z530)]) (st := []) (Nf := 9) X 1 (c_X8_value l D cA had N544 z530 (by omega) (RLL_q hR EN544).2.1) gL_same_X8_value rfl (by decide +kernel) ⟨by decide, by decide⟩ (Nat.le_of_ble_eq_true rfl) ⟨by decide, by decide⟩ rfl (by decide) sh_90 rfl rfl dL_same_591 (fun z591 Mc591 q_591 => ?_)
    obtain ⟨Q591, F591⟩ := q_591
    have E591 : eqx M Mc591 E9 := eqx_tr EN544 (eqx_mono F591 (by decide))
    have e_z591 : z591 = rvl M z530 + 1000 := S_val hR EN544 (by omega) Q591
    refine vv_iload X 4 rfl dL_same_594 ?_
    refine vv_aload_n X 7 rfl rfl dL_same_596 ?_
    refine vv_aload_n X 8 rfl rfl dL_same_597 ?_
    refine vv_callSI (As := [.int (zI z530), .ref (ad 105), .ref (ad 106)]) (st := [.int (zI z591)]) X 3 (c_L_value l D cA had Mc591 z530 (by omega) (W_E9 hW E591)) gL_same_L_value rfl (by decide +kernel) ⟨by decide, by decide⟩ (Nat.le_of_ble_eq_true rfl) ⟨by decide, by decide⟩ rfl rfl dL_same_598 (fun z598 Mc598 q_598 => ?_)
    obtain ⟨e_z598, g_z598⟩ := q_598
    have g_z598 := g_z598.symm
    subst g_z598
    rw [rvl_E9 E591] at e_z598
    refine vv_sipush (n := 1000) X (by decide) dL_same_601 ?_
    refine vv_iadd X dL_same_604 ?_
    refine vv_icmp_ne (tgt := 725) X (by omega) (by omega) dL_same_605 (by decide) (fun c_605 => ?_) (fun c_605 => ?_)
    · skip
      omega
    · skip
      refine vv_aload_n X 5 rfl rfl dL_same_608 ?_
      refine vv_iload X 4 rfl dL_same_609 ?_
      refine vv_iconst (n := 0) X dL_same_611 ?_
      refine vv_callVI (As := [.int (zI z530), .int (zI 0)]) (st := []) (Nf := 9) X 2 (c_X8_envelope l D cA had Mc591 z530 0 (by omega) (by omega) (RLL_q hR E591).2.1) gL_same_X8_envelope rfl (by decide +kernel) ⟨by decide, by decide⟩ (Nat.le_of_ble_eq_true rfl) ⟨by decide, by decide⟩ rfl (by decide) sh_90 rfl rfl dL_same_612 (fun z612 Mc612 q_612 => ?_)
      obtain ⟨Q612, F612⟩ := q_612
      have E612 : eqx M Mc612 E9 := eqx_tr E591 (eqx_mono F612 (by decide))
      have e_z612 : z612 = frA (sN (rvl M) z530 lo541 hi541) (sD lo541 hi541) + 10000000 := S_env0 hR E591 (by omega) hB541 Q612
      refine vv_aload X 11 rfl dL_same_615 ?_
      refine vv_iconst (n := 0) X dL_same_617 ?_
      refine vv_iald (z := (N544 109 0)) X (by decide) sh_109 (by decide) (by omega) (show Mc612 109 0 = N544 109 0 from by rw [((F612 109 (by decide)).trans ((F591 109 (by decide)).trans rfl))]) dL_same_618 ?_
      refine vv_ldc (n := 10000000) (v := 10000000) X (by decide +kernel) (by decide) dL_same_619 ?_
      refine vv_iadd X dL_same_621 ?_
      refine vv_icmp_ne (tgt := 725) X (by omega) (by omega) dL_same_622 (by decide) (fun c_622 => ?_) (fun c_622 => ?_)
      · skip
        omega
      · skip
        refine vv_aload_n X 5 rfl rfl dL_same_625 ?_
        refine vv_iload X 4 rfl dL_same_626 ?_
        refine vv_iconst (n := 1) X dL_same_628 ?_
        refine vv_callVI (As := [.int (zI z530), .int (zI 1)]) (st := []) (Nf := 9) X 2 (c_X8_envelope l D cA had Mc612 z530 1 (by omega) (by omega) (RLL_q hR E612).2.1) gL_same_X8_envelope rfl (by decide +kernel) ⟨by decide, by decide⟩ (Nat.le_of_ble_eq_true rfl) ⟨by decide, by decide⟩ rfl (by decide) sh_90 rfl rfl dL_same_629 (fun z629 Mc629 q_629 => ?_)
        obtain ⟨Q629, F629⟩ := q_629
        have E629 : eqx M Mc629 E9 := eqx_tr E612 (eqx_mono F629 (by decide))
        have e_z629 : z629 = frB (sN (rvl M) z530 lo541 hi541) (sD lo541 hi541) := S_env1 hR E612 (by omega) hB541 Q629
        refine vv_aload X 11 rfl dL_same_632 ?_
        refine vv_iconst (n := 1) X dL_same_634 ?_
        refine vv_iald (z := (N544 109 1)) X (by decide) sh_109 (by decide) (by omega) (show Mc629 109 1 = N544 109 1 from by rw [((F629 109 (by decide)).trans ((F612 109 (by decide)).trans ((F591 109 (by decide)).trans rfl)))]) dL_same_635 ?_
        refine vv_icmp_ne (tgt := 725) X (by omega) (by omega) dL_same_636 (by decide) (fun c_636 => ?_) (fun c_636 => ?_)
        · skip
          omega
        · skip
          refine vv_aload_n X 5 rfl rfl dL_same_639 ?_
          refine vv_iload X 4 rfl dL_same_640 ?_
          refine vv_iconst (n := 0) X dL_same_642 ?_
          refine vv_callVI (As := [.int (zI z530), .int (zI 0)]) (st := []) (Nf := 9) X 2 (c_X8_best l D cA had Mc629 z530 0 (by omega) (by omega) (RLL_q hR E629).2.1) gL_same_X8_best rfl (by decide +kernel) ⟨by decide, by decide⟩ (Nat.le_of_ble_eq_true rfl) ⟨by decide, by decide⟩ rfl (by decide) sh_90 rfl rfl dL_same_643 (fun z643 Mc643 q_643 => ?_)
          obtain ⟨Q643, F643⟩ := q_643
          have E643 : eqx M Mc643 E9 := eqx_tr E629 (eqx_mono F643 (by decide))
          have e_z643 : z643 = lo541 := S_bst0 hR E629 (by omega) hB541 Q643
          refine vv_iload X 2 rfl dL_same_646 ?_
          refine vv_icmp_ne (tgt := 725) X (by omega) (by omega) dL_same_648 (by decide) (fun c_648 => ?_) (fun c_648 => ?_)
          · skip
            omega
          · skip
            refine vv_aload_n X 5 rfl rfl dL_same_651 ?_
            refine vv_iload X 4 rfl dL_same_652 ?_
            refine vv_iconst (n := 1) X dL_same_654 ?_
            refine vv_callVI (As := [.int (zI z530), .int (zI 1)]) (st := []) (Nf := 9) X 2 (c_X8_best l D cA had Mc643 z530 1 (by omega) (by omega) (RLL_q hR E643).2.1) gL_same_X8_best rfl (by decide +kernel) ⟨by decide, by decide⟩ (Nat.le_of_ble_eq_true rfl) ⟨by decide, by decide⟩ rfl (by decide) sh_90 rfl rfl dL_same_655 (fun z655 Mc655 q_655 => ?_)
            obtain ⟨Q655, F655⟩ := q_655
            have E655 : eqx M Mc655 E9 := eqx_tr E643 (eqx_mono F655 (by decide))
            have e_z655 : z655 = hi541 := S_bst1 hR E643 (by omega) hB541 Q655
            refine vv_iload X 1 rfl dL_same_658 ?_
            refine vv_icmp_ne (tgt := 725) X (by omega) (by omega) dL_same_660 (by decide) (fun c_660 => ?_) (fun c_660 => ?_)
            · skip
              omega
            · skip
              refine vv_aload_n X 5 rfl rfl dL_same_663 ?_
              refine vv_iload X 4 rfl dL_same_664 ?_
              refine vv_iconst (n := 2) X dL_same_666 ?_
              refine vv_callVI (As := [.int (zI z530), .int (zI 2)]) (st := []) (Nf := 9) X 2 (c_X8_best l D cA had Mc655 z530 2 (by omega) (by omega) (RLL_q hR E655).2.1) gL_same_X8_best rfl (by decide +kernel) ⟨by decide, by decide⟩ (Nat.le_of_ble_eq_true rfl) ⟨by decide, by decide⟩ rfl (by decide) sh_90 rfl rfl dL_same_667 (fun z667 Mc667 q_667 => ?_)
              obtain ⟨Q667, F667⟩ := q_667
              have E667 : eqx M Mc667 E9 := eqx_tr E655 (eqx_mono F667 (by decide))
              have e_z667 : z667 = wLo z530 lo541 hi541 := S_bst2 hR E655 (by omega) hB541 Q667
              have wl9 := wLo_b hB541.1 (show 0 ≤ z530 ∧ z530 ≤ 100 by omega)
              refine vv_iload X 2 rfl dL_same_670 ?_
              refine vv_iload X 1 rfl dL_same_672 ?_
              refine vv_icmp_ne (tgt := 681) X (by omega) (by omega) dL_same_674 (by decide) (fun c_674 => ?_) (fun c_674 => ?_)
              · skip
                omega
              · skip
                refine vv_iconst (n := 1) X dL_same_677 ?_
                refine vv_goto (tgt := 689) X (by decide) dL_same_678 ?_
                have hw2 : wLo z530 lo541 hi541 = 1 := if_pos (by omega)
                refine vv_icmp_ne (tgt := 725) X (by omega) (by omega) dL_same_689 (by decide) (fun c_689 => ?_) (fun c_689 => ?_)
                · skip
                  omega
                · skip
                  refine vv_aload_n X 5 rfl rfl dL_same_692 ?_
                  refine vv_iload X 4 rfl dL_same_693 ?_
                  refine vv_iconst (n := 3) X dL_same_695 ?_
                  refine vv_callVI (As := [.int (zI z530), .int (zI 3)]) (st := []) (Nf := 9) X 2 (c_X8_best l D cA had Mc667 z530 3 (by omega) (by omega) (RLL_q hR E667).2.1) gL_same_X8_best rfl (by decide +kernel) ⟨by decide, by decide⟩ (Nat.le_of_ble_eq_true rfl) ⟨by decide, by decide⟩ rfl (by decide) sh_90 rfl rfl dL_same_696 (fun z696 Mc696 q_696 => ?_)
                  obtain ⟨Q696, F696⟩ := q_696
                  have E696 : eqx M Mc696 E9 := eqx_tr E667 (eqx_mono F696 (by decide))
                  have e_z696 : z696 = wHi z530 lo541 hi541 := S_bst3 hR E667 (by omega) hB541 Q696
                  have wh9 := wHi_b hB541.1 (show 0 ≤ z530 ∧ z530 ≤ 100 by omega)
                  refine vv_iload X 2 rfl dL_same_699 ?_
                  refine vv_iload X 1 rfl dL_same_701 ?_
                  refine vv_icmp_ne (tgt := 710) X (by omega) (by omega) dL_same_703 (by decide) (fun c_703 => ?_) (fun c_703 => ?_)
                  · skip
                    omega
                  · skip
                    refine vv_iconst (n := 0) X dL_same_706 ?_
                    refine vv_goto (tgt := 718) X (by decide) dL_same_707 ?_
                    have hw3 : wHi z530 lo541 hi541 = 0 := if_pos (by omega)
                    refine vv_icmp_ne (tgt := 725) X (by omega) (by omega) dL_same_718 (by decide) (fun c_718 => ?_) (fun c_718 => ?_)
                    · skip
                      omega
                    · skip
                      refine vv_iconst (n := 1) X dL_same_721 ?_
                      refine vv_goto (tgt := 726) X (by decide) dL_same_722 ?_
                      exact vv_zret X hm (by omega) (⟨rfl, E696⟩) dL_same_726
set_option maxRecDepth 100000 in
set_option maxHeartbeats 4000000 in
theorem c_L_same (l : Launch) (D : va_G) {ad : Nat → Nat} (cA : Nat → ClassId) (had : adok ad) (M : Mem) (x : Int) (hx : -2147483648 ≤ x ∧ x ≤ 2147483647) (hR : RLL M) : CtI l yL_same wsL_same 6 133 D ad cA [.ref (ad 90), .int (zI x), .ref (ad 105), .ref (ad 106), .ref (ad 107), .ref (ad 108), .ref (ad 109)] M (fun z M1 => z = 1 ∧ eqx M M1 E9) := by
  refine CtI.of (cc := cL_same) (maxL := 17) (ret := (some .boolean)) had (by decide) rfl (Nat.le_of_ble_eq_true rfl) ?_
  intro p e s m args below meth c X hm
  show VV p l e { frames := 6, cells := 0, slots := 0, locals := 133 } s m args below meth c 17 D ad cA (Afr ad s.heap.size) 0 0 (QI below args s D ad cA (fun z M1 => z = 1 ∧ eqx M M1 E9)) M 0 [(0, .ref (ad 90)), (1, .int (zI x)), (2, .ref (ad 105)), (3, .ref (ad 106)), (4, .ref (ad 107)), (5, .ref (ad 108)), (6, .ref (ad 109))] []
  refine same_A X hm M hR (fun N130 a7 a8 h130 e7 e8 => ?_)
  refine same_B X hm M N130 hR h130 e7 (fun N372 h372 => ?_)
  refine same_C X hm M N372 hR h372 e7 e8 (fun N527 h527 => ?_)
  exact same_D X hm hx M N527 hR h527
