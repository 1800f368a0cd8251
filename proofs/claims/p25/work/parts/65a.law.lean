set_option maxRecDepth 100000 in
set_option maxHeartbeats 4000000 in
theorem same_A {p : Program} {l : Launch} {e : Env} {s : State} {m : MethodId} {args : Array Value} {below : List Frame} {meth : Method} {c : Code} {D : va_G} {ad : Nat → Nat} {cA : Nat → ClassId} (X : Cx p s m args c cL_same yL_same.cls 17 wsL_same D ad cA (Afr ad s.heap.size)) (hm : Mt meth (some .boolean)) {x : Int} (M : Mem) (hR : RLL M) (nx : ∀ (N : Mem) (a7 a8 : Int), eqx M N E9 → a7 = mnT (vL M) → a8 = mnS (vL M) → VV p l e { frames := 6, cells := 0, slots := 0, locals := 133 } s m args below meth c 17 D ad cA (Afr ad s.heap.size) 0 0 (QI below args s D ad cA (fun z M1 => z = 1 ∧ eqx M M1 E9)) N 130 [(0, .ref (ad 90)), (1, .int (zI x)), (2, .ref (ad 105)), (3, .ref (ad 106)), (4, .ref (ad 107)), (5, .ref (ad 108)), (6, .ref (ad 109)), (7, .int (zI a7)), (8, .int (zI a8))] []) : VV p l e { frames := 6, cells := 0, slots := 0, locals := 133 } s m args below meth c 17 D ad cA (Afr ad s.heap.size) 0 0 (QI below args s D ad cA (fun z M1 => z = 1 ∧ eqx M M1 E9)) M 0 [(0, .ref (ad 90)), (1, .int (zI x)), (2, .ref (ad 105)), (3, .ref (ad 106)), (4, .ref (ad 107)), (5, .ref (ad 108)), (6, .ref (ad 109))] [] := by
  have had := X.2.2.2.1
  have hwl := RLL_wl hR
  have hW : rWR M := hwl.2.1
  have h5 := hW.2.1
  have h50 := hW.1
  have hsm : 1 ≤ M 105 2 ∧ M 105 2 ≤ 6 := WFs_pos hwl.2.2
  have hwb : ∀ k : Nat, (k : Int) < M 105 2 → (1 ≤ M 107 k ∧ M 107 k ≤ 999) ∧ (0 ≤ M 108 k ∧ M 108 k ≤ 100) := fun k hk => WFs_b hwl.2.2 hk
  have hp9 : 1 ≤ M 105 0 ∧ M 105 0 ≤ 99 := hwl.1
  have hvb : ∀ y : Int, -495 ≤ rvl M y ∧ rvl M y ≤ 990 := fun y => vl_b hW.2
  refine vv_iconst (n := 0) X dL_same_0 ?_
  refine vv_istore (lv' := [(7, .int (zI 0)), (0, .ref (ad 90)), (1, .int (zI x)), (2, .ref (ad 105)), (3, .ref (ad 106)), (4, .ref (ad 107)), (5, .ref (ad 108)), (6, .ref (ad 109))]) X (by decide) rfl dL_same_1 ?_
  refine vv_iconst (n := 0) X dL_same_3 ?_
  refine vv_istore (lv' := [(8, .int (zI 0)), (7, .int (zI 0)), (0, .ref (ad 90)), (1, .int (zI x)), (2, .ref (ad 105)), (3, .ref (ad 106)), (4, .ref (ad 107)), (5, .ref (ad 108)), (6, .ref (ad 109))]) X (by decide) rfl dL_same_4 ?_
  refine vv_iconst (n := 0) X dL_same_6 ?_
  refine vv_istore (lv' := [(9, .int (zI 0)), (8, .int (zI 0)), (7, .int (zI 0)), (0, .ref (ad 90)), (1, .int (zI x)), (2, .ref (ad 105)), (3, .ref (ad 106)), (4, .ref (ad 107)), (5, .ref (ad 108)), (6, .ref (ad 109))]) X (by decide) rfl dL_same_7 ?_
  have loop_9 : ∀ (n : Nat) (M_9 : Mem) (k : Nat) (a7 : Int) (a8 : Int) (a9 : Int), a9 = (k : Int) → (k : Int) ≤ M 105 2 → a7 = sm (M 107) k → a8 = sm (fun i => M 107 i * rvl M (M 108 i)) k → eqx M M_9 E9 → (M 105 2 - a9).toNat < n → VV p l e { frames := 6, cells := 0, slots := 0, locals := 133 } s m args below meth c 17 D ad cA (Afr ad s.heap.size) 0 0 (QI below args s D ad cA (fun z M1 => z = 1 ∧ eqx M M1 E9)) M_9 9 [(0, .ref (ad 90)), (1, .int (zI x)), (2, .ref (ad 105)), (3, .ref (ad 106)), (4, .ref (ad 107)), (5, .ref (ad 108)), (6, .ref (ad 109)), (7, .int (zI a7)), (8, .int (zI a8)), (9, .int (zI a9))] [] := by
    intro n
    induction n with
    | zero => intro M_9 k a7 a8 a9 h9 hk h7 h8 hE9 hn; exact absurd hn (Nat.not_lt_zero _)
    | succ n ih_9 =>
      intro M_9 k a7 a8 a9 h9 hk h7 h8 hE9 hn
      have e_9_105 : M_9 105 = M 105 := hE9 105 (by decide)
      have e_9_106 : M_9 106 = M 106 := hE9 106 (by decide)
      have e_9_107 : M_9 107 = M 107 := hE9 107 (by decide)
      have e_9_108 : M_9 108 = M 108 := hE9 108 (by decide)
      have i9 : a9.toNat = k := by omega
      have hwk : (k : Int) < M 105 2 → (1 ≤ M 107 k ∧ M 107 k ≤ 999) ∧ (0 ≤ M 108 k ∧ M 108 k ≤ 100) := hwb k
      have hW9 := W_E9 hW hE9
      refine vv_iload X 9 rfl dL_same_9 ?_
      refine vv_aload_n X 2 rfl rfl dL_same_11 ?_
      refine vv_iconst (n := 2) X dL_same_12 ?_
      refine vv_iald (z := (M 105 2)) X (by decide) sh_105 (by decide) (by omega) (show M_9 105 2 = M 105 2 from by rw [e_9_105]) dL_same_13 ?_
      refine vv_icmp_ge (tgt := 130) X (by omega) (by omega) dL_same_14 (by decide) (fun c_14 => ?_) (fun c_14 => ?_)
      · skip
        have ek : (M 105 2).toNat = k := by omega
        have e7 : a7 = mnT (vL M) := by rw [h7, ← ek]; rfl
        have e8 : a8 = mnS (vL M) := by rw [h8, ← ek]; rfl
        refine vv_sub (lv' := [(0, .ref (ad 90)), (1, .int (zI x)), (2, .ref (ad 105)), (3, .ref (ad 106)), (4, .ref (ad 107)), (5, .ref (ad 108)), (6, .ref (ad 109)), (7, .int (zI a7)), (8, .int (zI a8))]) [0, 1, 2, 3, 4, 5, 6, 7, 8] rfl ?_
        exact nx M_9 a7 a8 hE9 e7 e8
      · skip
        refine vv_iload X 7 rfl dL_same_17 ?_
        refine vv_aload X 4 rfl dL_same_19 ?_
        refine vv_iload X 9 rfl dL_same_21 ?_
        refine vv_iald (z := (M 107 k)) X (by decide) sh_107 (by decide) (by omega) (by first | (rw [i9]; done) | (rw [i9]; exact (show M_9 107 k = M 107 k from by rw [e_9_107]))) dL_same_23 ?_
        refine vv_iadd X dL_same_24 ?_
        refine vv_istore (lv' := [(7, .int (zI (a7 + (M 107 k)))), (0, .ref (ad 90)), (1, .int (zI x)), (2, .ref (ad 105)), (3, .ref (ad 106)), (4, .ref (ad 107)), (5, .ref (ad 108)), (6, .ref (ad 109)), (8, .int (zI a8)), (9, .int (zI a9))]) X (by decide) rfl dL_same_25 ?_
        refine vv_iload X 8 rfl dL_same_27 ?_
        refine vv_aload X 5 rfl dL_same_29 ?_
        refine vv_iload X 9 rfl dL_same_31 ?_
        refine vv_iald (z := (M 107 k)) X (by decide) sh_107 (by decide) (by omega) (by first | (rw [i9]; done) | (rw [i9]; exact (show M_9 107 k = M 107 k from by rw [e_9_107]))) dL_same_33 ?_
        refine vv_aload X 6 rfl dL_same_34 ?_
        refine vv_iload X 9 rfl dL_same_36 ?_
        refine vv_iald (z := (M 108 k)) X (by decide) sh_108 (by decide) (by omega) (by first | (rw [i9]; done) | (rw [i9]; exact (show M_9 108 k = M 108 k from by rw [e_9_108]))) dL_same_38 ?_
        refine vv_aload_n X 3 rfl rfl dL_same_39 ?_
        refine vv_aload_n X 4 rfl rfl dL_same_40 ?_
        refine vv_callSI (As := [.int (zI (M 108 k)), .ref (ad 105), .ref (ad 106)]) (st := [.int (zI (M 107 k)), .int (zI a8)]) X 3 (c_L_value l D cA had M_9 (M 108 k) (by have := hwk (by omega); omega) (hW9)) gL_same_L_value rfl (by decide +kernel) ⟨by decide, by decide⟩ (Nat.le_of_ble_eq_true rfl) ⟨by decide, by decide⟩ rfl rfl dL_same_41 (fun z41 Mc41 q_41 => ?_)
        obtain ⟨e_z41, g_z41⟩ := q_41
        have g_z41 := g_z41.symm
        subst g_z41
        rw [rvl_E9 hE9] at e_z41
        refine vv_imul X dL_same_44 ?_
        refine vv_iadd X dL_same_45 ?_
        refine vv_istore (lv' := [(8, .int (zI (a8 + ((M 107 k) * z41)))), (7, .int (zI (a7 + (M 107 k)))), (0, .ref (ad 90)), (1, .int (zI x)), (2, .ref (ad 105)), (3, .ref (ad 106)), (4, .ref (ad 107)), (5, .ref (ad 108)), (6, .ref (ad 109)), (9, .int (zI a9))]) X (by decide) rfl dL_same_46 ?_
        refine vv_aload_n X 2 rfl rfl dL_same_48 ?_
        refine vv_iload X 9 rfl dL_same_49 ?_
        refine vv_iconst (n := 0) X dL_same_51 ?_
        refine vv_callVI (As := [.int (zI a9), .int (zI 0)]) (st := []) (Nf := 9) X 2 (c_X8_part l D cA had M_9 a9 0 (by omega) (by omega) (RLL_q hR hE9).2.1) gL_same_X8_part rfl (by decide +kernel) ⟨by decide, by decide⟩ (Nat.le_of_ble_eq_true rfl) ⟨by decide, by decide⟩ rfl (by decide) sh_90 rfl rfl dL_same_52 (fun z52 Mc52 q_52 => ?_)
        obtain ⟨Q52, F52⟩ := q_52
        have E52 : eqx M Mc52 E9 := eqx_tr hE9 (eqx_mono F52 (by decide))
        have e_z52 : z52 = M 107 k := by
          have q := S_part0 hR hE9 (by omega) Q52
          rw [i9] at q
          exact q
        refine vv_aload X 6 rfl dL_same_55 ?_
        refine vv_iload X 9 rfl dL_same_57 ?_
        refine vv_iald (z := (M 107 k)) X (by decide) sh_107 (by decide) (by omega) (by first | (rw [i9]; done) | (rw [i9]; exact (show Mc52 107 k = M 107 k from by rw [(E52 107 (by decide))]))) dL_same_59 ?_
        refine vv_icmp_ne (tgt := 122) X (by have := hwk (by omega); omega) (by have := hwk (by omega); omega) dL_same_60 (by decide) (fun c_60 => ?_) (fun c_60 => ?_)
        · skip
          omega
        · skip
          refine vv_aload_n X 2 rfl rfl dL_same_63 ?_
          refine vv_iload X 9 rfl dL_same_64 ?_
          refine vv_iconst (n := 1) X dL_same_66 ?_
          refine vv_callVI (As := [.int (zI a9), .int (zI 1)]) (st := []) (Nf := 9) X 2 (c_X8_part l D cA had Mc52 a9 1 (by omega) (by omega) (RLL_q hR E52).2.1) gL_same_X8_part rfl (by decide +kernel) ⟨by decide, by decide⟩ (Nat.le_of_ble_eq_true rfl) ⟨by decide, by decide⟩ rfl (by decide) sh_90 rfl rfl dL_same_67 (fun z67 Mc67 q_67 => ?_)
          obtain ⟨Q67, F67⟩ := q_67
          have E67 : eqx M Mc67 E9 := eqx_tr E52 (eqx_mono F67 (by decide))
          have e_z67 : z67 = M 108 k := by
            have q := S_part1 hR E52 (by omega) Q67
            rw [i9] at q
            exact q
          refine vv_aload X 7 rfl dL_same_70 ?_
          refine vv_iload X 9 rfl dL_same_72 ?_
          refine vv_iald (z := (M 108 k)) X (by decide) sh_108 (by decide) (by omega) (by first | (rw [i9]; done) | (rw [i9]; exact (show Mc67 108 k = M 108 k from by rw [(E67 108 (by decide))]))) dL_same_74 ?_
          refine vv_icmp_ne (tgt := 122) X (by have := hwk (by omega); omega) (by have := hwk (by omega); omega) dL_same_75 (by decide) (fun c_75 => ?_) (fun c_75 => ?_)
          · skip
            omega
          · skip
            refine vv_aload_n X 2 rfl rfl dL_same_78 ?_
            refine vv_iload X 9 rfl dL_same_79 ?_
            refine vv_iconst (n := 2) X dL_same_81 ?_
            refine vv_callVI (As := [.int (zI a9), .int (zI 2)]) (st := []) (Nf := 9) X 2 (c_X8_part l D cA had Mc67 a9 2 (by omega) (by omega) (RLL_q hR E67).2.1) gL_same_X8_part rfl (by decide +kernel) ⟨by decide, by decide⟩ (Nat.le_of_ble_eq_true rfl) ⟨by decide, by decide⟩ rfl (by decide) sh_90 rfl rfl dL_same_82 (fun z82 Mc82 q_82 => ?_)
            obtain ⟨Q82, F82⟩ := q_82
            have E82 : eqx M Mc82 E9 := eqx_tr E67 (eqx_mono F82 (by decide))
            have e_z82 : z82 = mk (rL M) (rG M) (M 108 k) (M 105 1).toNat := by
              have q := S_part2 hR E67 (by omega) Q82
              rw [i9] at q
              exact q
            refine vv_aload X 7 rfl dL_same_85 ?_
            refine vv_iload X 9 rfl dL_same_87 ?_
            refine vv_iald (z := (M 108 k)) X (by decide) sh_108 (by decide) (by omega) (by first | (rw [i9]; done) | (rw [i9]; exact (show Mc82 108 k = M 108 k from by rw [(E82 108 (by decide))]))) dL_same_89 ?_
            refine vv_aload_n X 4 rfl rfl dL_same_90 ?_
            refine vv_aload_n X 5 rfl rfl dL_same_91 ?_
            refine vv_callSI (As := [.int (zI (M 108 k)), .ref (ad 105), .ref (ad 106)]) (st := [.int (zI z82)]) X 3 (c_L_acting l D cA had Mc82 (M 108 k) (by have := hwk (by omega); omega) (W_E9 hW E82)) gL_same_L_acting rfl (by decide +kernel) ⟨by decide, by decide⟩ (Nat.le_of_ble_eq_true rfl) ⟨by decide, by decide⟩ rfl rfl dL_same_92 (fun z92 Mc92 q_92 => ?_)
            obtain ⟨e_z92, g_z92⟩ := q_92
            have g_z92 := g_z92.symm
            subst g_z92
            rw [mk_E9 E82] at e_z92
            have mb9 := mk_32 (L := rL M) (G := rG M) (x := M 108 k) (m := (M 105 1).toNat) h5
            refine vv_icmp_ne (tgt := 122) X (by omega) (by omega) dL_same_95 (by decide) (fun c_95 => ?_) (fun c_95 => ?_)
            · skip
              omega
            · skip
              refine vv_aload_n X 2 rfl rfl dL_same_98 ?_
              refine vv_iload X 9 rfl dL_same_99 ?_
              refine vv_iconst (n := 3) X dL_same_101 ?_
              refine vv_callVI (As := [.int (zI a9), .int (zI 3)]) (st := []) (Nf := 9) X 2 (c_X8_part l D cA had Mc82 a9 3 (by omega) (by omega) (RLL_q hR E82).2.1) gL_same_X8_part rfl (by decide +kernel) ⟨by decide, by decide⟩ (Nat.le_of_ble_eq_true rfl) ⟨by decide, by decide⟩ rfl (by decide) sh_90 rfl rfl dL_same_102 (fun z102 Mc102 q_102 => ?_)
              obtain ⟨Q102, F102⟩ := q_102
              have E102 : eqx M Mc102 E9 := eqx_tr E82 (eqx_mono F102 (by decide))
              have e_z102 : z102 = rvl M (M 108 k) + 1000 := by
                have q := S_part3 hR E82 (by omega) Q102
                rw [i9] at q
                exact q
              refine vv_aload X 7 rfl dL_same_105 ?_
              refine vv_iload X 9 rfl dL_same_107 ?_
              refine vv_iald (z := (M 108 k)) X (by decide) sh_108 (by decide) (by omega) (by first | (rw [i9]; done) | (rw [i9]; exact (show Mc102 108 k = M 108 k from by rw [(E102 108 (by decide))]))) dL_same_109 ?_
              refine vv_aload_n X 4 rfl rfl dL_same_110 ?_
              refine vv_aload_n X 5 rfl rfl dL_same_111 ?_
              refine vv_callSI (As := [.int (zI (M 108 k)), .ref (ad 105), .ref (ad 106)]) (st := [.int (zI z102)]) X 3 (c_L_value l D cA had Mc102 (M 108 k) (by have := hwk (by omega); omega) (W_E9 hW E102)) gL_same_L_value rfl (by decide +kernel) ⟨by decide, by decide⟩ (Nat.le_of_ble_eq_true rfl) ⟨by decide, by decide⟩ rfl rfl dL_same_112 (fun z112 Mc112 q_112 => ?_)
              obtain ⟨e_z112, g_z112⟩ := q_112
              have g_z112 := g_z112.symm
              subst g_z112
              rw [rvl_E9 E102] at e_z112
              have rb9 := hvb (M 108 k)
              refine vv_sipush (n := 1000) X (by decide) dL_same_115 ?_
              refine vv_iadd X dL_same_118 ?_
              refine vv_icmp_eq (tgt := 124) X (by omega) (by omega) dL_same_119 (by decide) (fun c_119 => ?_) (fun c_119 => ?_)
              · skip
                refine vv_iinc (lv' := [(9, .int (zI (a9 + 1))), (8, .int (zI (a8 + ((M 107 k) * z41)))), (7, .int (zI (a7 + (M 107 k)))), (0, .ref (ad 90)), (1, .int (zI x)), (2, .ref (ad 105)), (3, .ref (ad 106)), (4, .ref (ad 107)), (5, .ref (ad 108)), (6, .ref (ad 109))]) X 9 rfl (by decide) rfl dL_same_124 ?_
                refine vv_goto (tgt := 9) X (by decide) dL_same_127 ?_
                refine vv_sub (lv' := [(0, .ref (ad 90)), (1, .int (zI x)), (2, .ref (ad 105)), (3, .ref (ad 106)), (4, .ref (ad 107)), (5, .ref (ad 108)), (6, .ref (ad 109)), (7, .int (zI (a7 + (M 107 k)))), (8, .int (zI (a8 + ((M 107 k) * z41)))), (9, .int (zI (a9 + 1)))]) [3, 4, 5, 6, 7, 8, 9, 2, 1, 0] rfl ?_
                exact ih_9 Mc102 (k + 1) (a7 + (M 107 k)) (a8 + ((M 107 k) * z41)) (a9 + 1) (by omega) (by omega) (by rw [h7]; rfl) (by rw [h8, e_z41]; rfl) E102 (by omega)
              · skip
                omega
  refine vv_sub (lv' := [(0, .ref (ad 90)), (1, .int (zI x)), (2, .ref (ad 105)), (3, .ref (ad 106)), (4, .ref (ad 107)), (5, .ref (ad 108)), (6, .ref (ad 109)), (7, .int (zI 0)), (8, .int (zI 0)), (9, .int (zI 0))]) [3, 4, 5, 6, 7, 8, 9, 2, 1, 0] rfl ?_
  exact loop_9 _ M 0 0 0 0 rfl (by omega) rfl rfl (eqx_rf _ _) (Nat.lt_succ_self _)
