set_option maxRecDepth 100000 in
set_option maxHeartbeats 4000000 in
theorem law_kind {p : Program} {l : Launch} {e : Env} {s : State} {m : MethodId} {below : List Frame} {meth : Method} {c : Code} {D : va_G} {ad : Nat → Nat} {cA : Nat → ClassId} {b : Nat} (X : Cx p s m #[Value.ref b] c cL_law RL 19 wsL_law D ad cA (AL s)) {i x w : Int} (M : Mem) (hR : RLL M) (hw : 0 ≤ w ∧ w < 8) (nx : ∀ M2 : Mem, RLL M2 → VV p l e room_1 s m #[Value.ref b] below meth c 19 D ad cA (AL s) 113 940 (lw_Z below #[Value.ref b] s) M2 1029 [(0, .ref b), (1, .ref (ad 90)), (2, .ref (ad 105)), (3, .ref (ad 106)), (4, .ref (ad 107)), (5, .ref (ad 108)), (6, .ref (ad 109)), (7, .ref (ad 110)), (8, .ref (ad 111)), (9, .ref (ad 112)), (10, .int (zI i)), (11, .int (zI x))] []) : VV p l e room_1 s m #[Value.ref b] below meth c 19 D ad cA (AL s) 113 940 (lw_Z below #[Value.ref b] s) M 109 [(0, .ref b), (1, .ref (ad 90)), (2, .ref (ad 105)), (3, .ref (ad 106)), (4, .ref (ad 107)), (5, .ref (ad 108)), (6, .ref (ad 109)), (7, .ref (ad 110)), (8, .ref (ad 111)), (9, .ref (ad 112)), (10, .int (zI i)), (11, .int (zI x)), (12, .int (zI w))] [] := by
  have had := X.2.2.2.1
  have hwl := RLL_wl hR
  have hW : rWR M := hwl.2.1
  have h5 := hW.2.1
  have h50 := hW.1
  have hsm : 1 ≤ M 105 2 ∧ M 105 2 ≤ 6 := WFs_pos hwl.2.2
  have hwb : ∀ k : Nat, (k : Int) < M 105 2 → (1 ≤ M 107 k ∧ M 107 k ≤ 999) ∧ (0 ≤ M 108 k ∧ M 108 k ≤ 100) := fun k hk => WFs_b hwl.2.2 hk
  have hp9 : 1 ≤ M 105 0 ∧ M 105 0 ≤ 99 := hwl.1
  refine vv_iload X 12 rfl dL_law_109 ?_
  refine vv_iconst (n := 2) X dL_law_111 ?_
  refine vv_icmp_ge (tgt := 259) X (by omega) (by omega) dL_law_112 (by decide) (fun c_112 => ?_) (fun c_112 => ?_)
  · skip
    refine vv_iload X 12 rfl dL_law_259 ?_
    refine vv_iconst (n := 2) X dL_law_261 ?_
    refine vv_icmp_ne (tgt := 339) X (by omega) (by omega) dL_law_262 (by decide) (fun c_262 => ?_) (fun c_262 => ?_)
    · skip
      refine vv_iload X 12 rfl dL_law_339 ?_
      refine vv_iconst (n := 5) X dL_law_341 ?_
      refine vv_icmp_ge (tgt := 592) X (by omega) (by omega) dL_law_342 (by decide) (fun c_342 => ?_) (fun c_342 => ?_)
      · skip
        refine vv_iload X 12 rfl dL_law_592 ?_
        refine vv_iconst (n := 5) X dL_law_594 ?_
        refine vv_icmp_ne (tgt := 857) X (by omega) (by omega) dL_law_595 (by decide) (fun c_595 => ?_) (fun c_595 => ?_)
        · skip
          refine vv_iload X 12 rfl dL_law_857 ?_
          refine vv_bipush (n := 6) X (by decide) dL_law_859 ?_
          refine vv_icmp_ne (tgt := 982) X (by omega) (by omega) dL_law_861 (by decide) (fun c_861 => ?_) (fun c_861 => ?_)
          · skip
            refine vv_sub (lv' := [(0, .ref b), (1, .ref (ad 90)), (2, .ref (ad 105)), (3, .ref (ad 106)), (4, .ref (ad 107)), (5, .ref (ad 108)), (6, .ref (ad 109)), (7, .ref (ad 110)), (8, .ref (ad 111)), (9, .ref (ad 112)), (10, .int (zI i)), (11, .int (zI x))]) [0, 1, 2, 3, 4, 5, 6, 7, 8, 9, 10, 11] rfl ?_
            exact law_prior X M hR nx
          · skip
            refine vv_sub (lv' := [(0, .ref b), (1, .ref (ad 90)), (2, .ref (ad 105)), (3, .ref (ad 106)), (4, .ref (ad 107)), (5, .ref (ad 108)), (6, .ref (ad 109)), (7, .ref (ad 110)), (8, .ref (ad 111)), (9, .ref (ad 112)), (10, .int (zI i)), (11, .int (zI x))]) [0, 1, 2, 3, 4, 5, 6, 7, 8, 9, 10, 11] rfl ?_
            exact law_adopt X M hR nx
        · skip
          refine vv_sub (lv' := [(0, .ref b), (1, .ref (ad 90)), (2, .ref (ad 105)), (3, .ref (ad 106)), (4, .ref (ad 107)), (5, .ref (ad 108)), (6, .ref (ad 109)), (7, .ref (ad 110)), (8, .ref (ad 111)), (9, .ref (ad 112)), (10, .int (zI i)), (11, .int (zI x))]) [0, 1, 2, 3, 4, 5, 6, 7, 8, 9, 10, 11] rfl ?_
          exact law_join X M hR nx
      · skip
        refine vv_sub (lv' := [(0, .ref b), (1, .ref (ad 90)), (2, .ref (ad 105)), (3, .ref (ad 106)), (4, .ref (ad 107)), (5, .ref (ad 108)), (6, .ref (ad 109)), (7, .ref (ad 110)), (8, .ref (ad 111)), (9, .ref (ad 112)), (10, .int (zI i)), (11, .int (zI x))]) [0, 1, 2, 3, 4, 5, 6, 7, 8, 9, 10, 11] rfl ?_
        exact law_refine X M hR nx
    · skip
      refine vv_aload_n X 2 rfl rfl dL_law_265 ?_
      refine vv_iconst (n := 1) X dL_law_266 ?_
      refine vv_iald (z := (M 105 1)) X (by decide) sh_105 (by decide) (by omega) (rfl) dL_law_267 ?_
      refine vv_if_le (tgt := 339) X (by omega) dL_law_268 (by decide) (fun c_268 => ?_) (fun c_268 => ?_)
      · skip
        refine vv_iload X 12 rfl dL_law_339 ?_
        refine vv_iconst (n := 5) X dL_law_341 ?_
        refine vv_icmp_ge (tgt := 592) X (by omega) (by omega) dL_law_342 (by decide) (fun c_342 => ?_) (fun c_342 => ?_)
        · skip
          refine vv_iload X 12 rfl dL_law_592 ?_
          refine vv_iconst (n := 5) X dL_law_594 ?_
          refine vv_icmp_ne (tgt := 857) X (by omega) (by omega) dL_law_595 (by decide) (fun c_595 => ?_) (fun c_595 => ?_)
          · skip
            refine vv_iload X 12 rfl dL_law_857 ?_
            refine vv_bipush (n := 6) X (by decide) dL_law_859 ?_
            refine vv_icmp_ne (tgt := 982) X (by omega) (by omega) dL_law_861 (by decide) (fun c_861 => ?_) (fun c_861 => ?_)
            · skip
              refine vv_sub (lv' := [(0, .ref b), (1, .ref (ad 90)), (2, .ref (ad 105)), (3, .ref (ad 106)), (4, .ref (ad 107)), (5, .ref (ad 108)), (6, .ref (ad 109)), (7, .ref (ad 110)), (8, .ref (ad 111)), (9, .ref (ad 112)), (10, .int (zI i)), (11, .int (zI x))]) [0, 1, 2, 3, 4, 5, 6, 7, 8, 9, 10, 11] rfl ?_
              exact law_prior X M hR nx
            · skip
              refine vv_sub (lv' := [(0, .ref b), (1, .ref (ad 90)), (2, .ref (ad 105)), (3, .ref (ad 106)), (4, .ref (ad 107)), (5, .ref (ad 108)), (6, .ref (ad 109)), (7, .ref (ad 110)), (8, .ref (ad 111)), (9, .ref (ad 112)), (10, .int (zI i)), (11, .int (zI x))]) [0, 1, 2, 3, 4, 5, 6, 7, 8, 9, 10, 11] rfl ?_
              exact law_adopt X M hR nx
          · skip
            refine vv_sub (lv' := [(0, .ref b), (1, .ref (ad 90)), (2, .ref (ad 105)), (3, .ref (ad 106)), (4, .ref (ad 107)), (5, .ref (ad 108)), (6, .ref (ad 109)), (7, .ref (ad 110)), (8, .ref (ad 111)), (9, .ref (ad 112)), (10, .int (zI i)), (11, .int (zI x))]) [0, 1, 2, 3, 4, 5, 6, 7, 8, 9, 10, 11] rfl ?_
            exact law_join X M hR nx
        · skip
          refine vv_sub (lv' := [(0, .ref b), (1, .ref (ad 90)), (2, .ref (ad 105)), (3, .ref (ad 106)), (4, .ref (ad 107)), (5, .ref (ad 108)), (6, .ref (ad 109)), (7, .ref (ad 110)), (8, .ref (ad 111)), (9, .ref (ad 112)), (10, .int (zI i)), (11, .int (zI x))]) [0, 1, 2, 3, 4, 5, 6, 7, 8, 9, 10, 11] rfl ?_
          exact law_refine X M hR nx
      · skip
        refine vv_sub (lv' := [(0, .ref b), (1, .ref (ad 90)), (2, .ref (ad 105)), (3, .ref (ad 106)), (4, .ref (ad 107)), (5, .ref (ad 108)), (6, .ref (ad 109)), (7, .ref (ad 110)), (8, .ref (ad 111)), (9, .ref (ad 112)), (10, .int (zI i)), (11, .int (zI x))]) [0, 1, 2, 3, 4, 5, 6, 7, 8, 9, 10, 11] rfl ?_
        exact law_dismiss X M hR (by omega) nx
  · skip
    refine vv_sub (lv' := [(0, .ref b), (1, .ref (ad 90)), (2, .ref (ad 105)), (3, .ref (ad 106)), (4, .ref (ad 107)), (5, .ref (ad 108)), (6, .ref (ad 109)), (7, .ref (ad 110)), (8, .ref (ad 111)), (9, .ref (ad 112)), (10, .int (zI i)), (11, .int (zI x))]) [0, 1, 2, 3, 4, 5, 6, 7, 8, 9, 10, 11] rfl ?_
    exact law_hire X M hR nx
set_option maxRecDepth 100000 in
set_option maxHeartbeats 4000000 in
theorem law_turn {p : Program} {l : Launch} {e : Env} {s : State} {m : MethodId} {below : List Frame} {meth : Method} {c : Code} {D : va_G} {ad : Nat → Nat} {cA : Nat → ClassId} {b : Nat} (X : Cx p s m #[Value.ref b] c cL_law RL 19 wsL_law D ad cA (AL s)) {i x : Int} (M : Mem) (hR : RLL M) (hi : 0 ≤ i ∧ i ≤ 14) (nx : ∀ M2 : Mem, RLL M2 → VV p l e room_1 s m #[Value.ref b] below meth c 19 D ad cA (AL s) 113 940 (lw_Z below #[Value.ref b] s) M2 1029 [(0, .ref b), (1, .ref (ad 90)), (2, .ref (ad 105)), (3, .ref (ad 106)), (4, .ref (ad 107)), (5, .ref (ad 108)), (6, .ref (ad 109)), (7, .ref (ad 110)), (8, .ref (ad 111)), (9, .ref (ad 112)), (10, .int (zI i)), (11, .int (zI x))] []) : VV p l e room_1 s m #[Value.ref b] below meth c 19 D ad cA (AL s) 113 940 (lw_Z below #[Value.ref b] s) M 90 [(0, .ref b), (1, .ref (ad 90)), (2, .ref (ad 105)), (3, .ref (ad 106)), (4, .ref (ad 107)), (5, .ref (ad 108)), (6, .ref (ad 109)), (7, .ref (ad 110)), (8, .ref (ad 111)), (9, .ref (ad 112)), (10, .int (zI i)), (11, .int (zI x))] [] := by
  have had := X.2.2.2.1
  skip
  refine vv_iload X 10 rfl dL_law_90 ?_
  refine vv_iconst (n := 2) X dL_law_92 ?_
  refine vv_icmp_ge (tgt := 100) X (by omega) (by omega) dL_law_93 (by decide) (fun c_93 => ?_) (fun c_93 => ?_)
  · skip
    refine vv_iload X 11 rfl dL_law_100 ?_
    refine vv_bipush (n := 8) X (by decide) dL_law_102 ?_
    refine vv_callSI (As := [.int (zI x), .int (zI 8)]) (st := []) X 2 (c_L_low l D cA had M x 8 (by omega)) gL_law_L_low rfl (by decide +kernel) ⟨by decide, by decide⟩ (Nat.le_of_ble_eq_true rfl) ⟨Nat.le_of_ble_eq_true rfl, Nat.le_of_ble_eq_true rfl⟩ rfl rfl dL_law_104 (fun z104 Mc104 q_104 => ?_)
    obtain ⟨e_z104, g_z104⟩ := q_104
    have g_z104 := g_z104.symm
    subst g_z104
    refine vv_istore (lv' := [(12, .int (zI z104)), (0, .ref b), (1, .ref (ad 90)), (2, .ref (ad 105)), (3, .ref (ad 106)), (4, .ref (ad 107)), (5, .ref (ad 108)), (6, .ref (ad 109)), (7, .ref (ad 110)), (8, .ref (ad 111)), (9, .ref (ad 112)), (10, .int (zI i)), (11, .int (zI x))]) X (by decide) rfl dL_law_107 ?_
    refine vv_sub (lv' := [(0, .ref b), (1, .ref (ad 90)), (2, .ref (ad 105)), (3, .ref (ad 106)), (4, .ref (ad 107)), (5, .ref (ad 108)), (6, .ref (ad 109)), (7, .ref (ad 110)), (8, .ref (ad 111)), (9, .ref (ad 112)), (10, .int (zI i)), (11, .int (zI x)), (12, .int (zI z104))]) [1, 2, 3, 4, 5, 6, 7, 8, 9, 10, 11, 12, 0] rfl ?_
    exact law_kind X M hR (by omega) nx
  · skip
    refine vv_iconst (n := 0) X dL_law_96 ?_
    refine vv_goto (tgt := 107) X (by decide) dL_law_97 ?_
    refine vv_istore (lv' := [(12, .int (zI 0)), (0, .ref b), (1, .ref (ad 90)), (2, .ref (ad 105)), (3, .ref (ad 106)), (4, .ref (ad 107)), (5, .ref (ad 108)), (6, .ref (ad 109)), (7, .ref (ad 110)), (8, .ref (ad 111)), (9, .ref (ad 112)), (10, .int (zI i)), (11, .int (zI x))]) X (by decide) rfl dL_law_107 ?_
    refine vv_sub (lv' := [(0, .ref b), (1, .ref (ad 90)), (2, .ref (ad 105)), (3, .ref (ad 106)), (4, .ref (ad 107)), (5, .ref (ad 108)), (6, .ref (ad 109)), (7, .ref (ad 110)), (8, .ref (ad 111)), (9, .ref (ad 112)), (10, .int (zI i)), (11, .int (zI x)), (12, .int (zI 0))]) [1, 2, 3, 4, 5, 6, 7, 8, 9, 10, 11, 12, 0] rfl ?_
    exact law_kind X M hR (by omega) nx
set_option maxRecDepth 100000 in
set_option maxHeartbeats 4000000 in
theorem law_init {p : Program} {l : Launch} {e : Env} {s : State} {m : MethodId} {below : List Frame} {meth : Method} {c : Code} {D : va_G} {ad : Nat → Nat} {cA : Nat → ClassId} {b : Nat} (X : Cx p s m #[Value.ref b] c cL_law RL 19 wsL_law D ad cA (AL s)) (M : Mem) (nx : ∀ N : Mem, N = up2 (up2 (up2 (up2 M 105 0 30) 105 2 1) 107 0 1) 108 0 30 → VV p l e room_1 s m #[Value.ref b] below meth c 19 D ad cA (AL s) 113 940 (lw_Z below #[Value.ref b] s) N 75 [(0, .ref b), (1, .ref (ad 90)), (2, .ref (ad 105)), (3, .ref (ad 106)), (4, .ref (ad 107)), (5, .ref (ad 108)), (6, .ref (ad 109)), (7, .ref (ad 110)), (8, .ref (ad 111)), (9, .ref (ad 112)), (10, .int (zI 0))] []) : VV p l e room_1 s m #[Value.ref b] below meth c 19 D ad cA (AL s) 113 940 (lw_Z below #[Value.ref b] s) M 52 [(0, .ref b), (1, .ref (ad 90)), (2, .ref (ad 105)), (3, .ref (ad 106)), (4, .ref (ad 107)), (5, .ref (ad 108)), (6, .ref (ad 109)), (7, .ref (ad 110)), (8, .ref (ad 111)), (9, .ref (ad 112))] [] := by
  have had := X.2.2.2.1
  skip
  refine vv_aload_n X 2 rfl rfl dL_law_52 ?_
  refine vv_iconst (n := 0) X dL_law_53 ?_
  refine vv_bipush (n := 30) X (by decide) dL_law_54 ?_
  refine vv_iast (ix := 0) X (by decide) sh_105 (by decide) (by omega) (rfl) dL_law_56 ?_
  refine vv_aload_n X 2 rfl rfl dL_law_57 ?_
  refine vv_iconst (n := 2) X dL_law_58 ?_
  refine vv_iconst (n := 1) X dL_law_59 ?_
  refine vv_iast (ix := 2) X (by decide) sh_105 (by decide) (by omega) (rfl) dL_law_60 ?_
  refine vv_aload X 4 rfl dL_law_61 ?_
  refine vv_iconst (n := 0) X dL_law_63 ?_
  refine vv_iconst (n := 1) X dL_law_64 ?_
  refine vv_iast (ix := 0) X (by decide) sh_107 (by decide) (by omega) (rfl) dL_law_65 ?_
  refine vv_aload X 5 rfl dL_law_66 ?_
  refine vv_iconst (n := 0) X dL_law_68 ?_
  refine vv_bipush (n := 30) X (by decide) dL_law_69 ?_
  refine vv_iast (ix := 0) X (by decide) sh_108 (by decide) (by omega) (rfl) dL_law_71 ?_
  refine vv_iconst (n := 0) X dL_law_72 ?_
  refine vv_istore (lv' := [(10, .int (zI 0)), (0, .ref b), (1, .ref (ad 90)), (2, .ref (ad 105)), (3, .ref (ad 106)), (4, .ref (ad 107)), (5, .ref (ad 108)), (6, .ref (ad 109)), (7, .ref (ad 110)), (8, .ref (ad 111)), (9, .ref (ad 112))]) X (by decide) rfl dL_law_73 ?_
  refine vv_sub (lv' := [(0, .ref b), (1, .ref (ad 90)), (2, .ref (ad 105)), (3, .ref (ad 106)), (4, .ref (ad 107)), (5, .ref (ad 108)), (6, .ref (ad 109)), (7, .ref (ad 110)), (8, .ref (ad 111)), (9, .ref (ad 112)), (10, .int (zI 0))]) [1, 2, 3, 4, 5, 6, 7, 8, 9, 10, 0] rfl ?_
  exact nx _ rfl
set_option maxRecDepth 100000 in
set_option maxHeartbeats 4000000 in
theorem law_loop {p : Program} {l : Launch} {e : Env} {s : State} {m : MethodId} {below : List Frame} {meth : Method} {c : Code} {D : va_G} {ad : Nat → Nat} {cA : Nat → ClassId} {b L : Nat} {xs : Nat → Int32} (X : Cx p s m #[Value.ref b] c cL_law RL 19 wsL_law D ad cA (AL s)) (hX : va_X b L xs s s.heap) (hbl : b < s.heap.size) (hL : L < 2147483648) (hr : meth.sig.returnType = ret) (hlocks : meth.locks = false) : ∀ (n : Nat) (i : Int) (M : Mem), (0 ≤ i ∧ i ≤ 14) → RLL M → (14 - i).toNat < n → VV p l e room_1 s m #[Value.ref b] below meth c 19 D ad cA (AL s) 113 940 (lw_Z below #[Value.ref b] s) M 75 [(0, .ref b), (1, .ref (ad 90)), (2, .ref (ad 105)), (3, .ref (ad 106)), (4, .ref (ad 107)), (5, .ref (ad 108)), (6, .ref (ad 109)), (7, .ref (ad 110)), (8, .ref (ad 111)), (9, .ref (ad 112)), (10, .int (zI i))] [] := by
  intro n
  induction n with
  | zero => intro i M hi hR hn; exact absurd hn (Nat.not_lt_zero _)
  | succ n ih =>
    intro i M hi hR hn
    refine vv_iload X 10 rfl dL_law_75 ?_
    refine vv_bipush (n := 14) X (by decide) dL_law_77 ?_
    refine vv_icmp_ge (tgt := 1056) X (by omega) (by omega) dL_law_79 (by decide) (fun c_79 => ?_) (fun c_79 => ?_)
    · refine vv_iconst (n := 1) X dL_law_1056 ?_
      exact vv_lawret X.1.1 X.1.2.1 hr hlocks ⟨Nat.le_of_ble_eq_true rfl, Nat.le_of_ble_eq_true rfl⟩ dL_law_1057
    · refine vv_aload_n X 0 rfl rfl dL_law_82 ?_
      refine vv_iload X 10 rfl dL_law_83 ?_
      refine vv_callC X X.2.2.2.1 hX hbl (Nat.not_le.mpr hbl) hL (by omega) gL_law_L_cell ⟨by decide, by decide⟩ (Nat.le_of_ble_eq_true rfl) ⟨Nat.le_of_ble_eq_true rfl, Nat.le_of_ble_eq_true rfl⟩ dL_law_85 (fun x hx => ?_)
      refine vv_istore (lv' := [(11, .int (zI x)), (0, .ref b), (1, .ref (ad 90)), (2, .ref (ad 105)), (3, .ref (ad 106)), (4, .ref (ad 107)), (5, .ref (ad 108)), (6, .ref (ad 109)), (7, .ref (ad 110)), (8, .ref (ad 111)), (9, .ref (ad 112)), (10, .int (zI i))]) X (by decide) rfl dL_law_88 ?_
      refine vv_sub (lv' := [(0, .ref b), (1, .ref (ad 90)), (2, .ref (ad 105)), (3, .ref (ad 106)), (4, .ref (ad 107)), (5, .ref (ad 108)), (6, .ref (ad 109)), (7, .ref (ad 110)), (8, .ref (ad 111)), (9, .ref (ad 112)), (10, .int (zI i)), (11, .int (zI x))]) [1, 2, 3, 4, 5, 6, 7, 8, 9, 10, 11, 0] rfl ?_
      exact law_turn X M hR hi (fun M2 h2 => law_same X M2 h2 (fun M3 h3 => ih (i + 1) M3 (by omega) h3 (by omega)))
