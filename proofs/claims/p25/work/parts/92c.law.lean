set_option maxRecDepth 100000 in
set_option maxHeartbeats 4000000 in
theorem law_dismiss {p : Program} {l : Launch} {e : Env} {s : State} {m : MethodId} {below : List Frame} {meth : Method} {c : Code} {D : va_G} {ad : Nat → Nat} {cA : Nat → ClassId} {b : Nat} (X : Cx p s m #[Value.ref b] c cL_law RL 19 wsL_law D ad cA (AL s)) {i x : Int} (M : Mem) (hR : RLL M) (hq : 0 < M 105 1) (nx : ∀ M2 : Mem, RLL M2 → VV p l e room_1 s m #[Value.ref b] below meth c 19 D ad cA (AL s) 113 940 (lw_Z below #[Value.ref b] s) M2 1029 [(0, .ref b), (1, .ref (ad 90)), (2, .ref (ad 105)), (3, .ref (ad 106)), (4, .ref (ad 107)), (5, .ref (ad 108)), (6, .ref (ad 109)), (7, .ref (ad 110)), (8, .ref (ad 111)), (9, .ref (ad 112)), (10, .int (zI i)), (11, .int (zI x))] []) : VV p l e room_1 s m #[Value.ref b] below meth c 19 D ad cA (AL s) 113 940 (lw_Z below #[Value.ref b] s) M 271 [(0, .ref b), (1, .ref (ad 90)), (2, .ref (ad 105)), (3, .ref (ad 106)), (4, .ref (ad 107)), (5, .ref (ad 108)), (6, .ref (ad 109)), (7, .ref (ad 110)), (8, .ref (ad 111)), (9, .ref (ad 112)), (10, .int (zI i)), (11, .int (zI x))] [] := by
  have had := X.2.2.2.1
  have hwl := RLL_wl hR
  have hW : rWR M := hwl.2.1
  have h5 := hW.2.1
  have h50 := hW.1
  have hsm : 1 ≤ M 105 2 ∧ M 105 2 ≤ 6 := WFs_pos hwl.2.2
  have hwb : ∀ k : Nat, (k : Int) < M 105 2 → (1 ≤ M 107 k ∧ M 107 k ≤ 999) ∧ (0 ≤ M 108 k ∧ M 108 k ≤ 100) := fun k hk => WFs_b hwl.2.2 hk
  have hp9 : 1 ≤ M 105 0 ∧ M 105 0 ≤ 99 := hwl.1
  refine vv_iload X 11 rfl dL_law_271 ?_
  refine vv_iconst (n := 3) X dL_law_273 ?_
  obtain ⟨v274, hv274, ev274⟩ := any32 (zI x >>> (zI 3 &&& 31))
  refine vv_ishr (a := v274) X (ev274) dL_law_274 ?_
  refine vv_aload_n X 2 rfl rfl dL_law_275 ?_
  refine vv_iconst (n := 1) X dL_law_276 ?_
  refine vv_iald (z := (M 105 1)) X (by decide) sh_105 (by decide) (by omega) (rfl) dL_law_277 ?_
  refine vv_callSI (As := [.int (zI v274), .int (zI (M 105 1))]) (st := []) X 2 (c_L_low l D cA had M v274 (M 105 1) (by omega)) gL_law_L_low rfl (by decide +kernel) ⟨by decide, by decide⟩ (Nat.le_of_ble_eq_true rfl) ⟨Nat.le_of_ble_eq_true rfl, Nat.le_of_ble_eq_true rfl⟩ rfl rfl dL_law_278 (fun z278 Mc278 q_278 => ?_)
  obtain ⟨e_z278, g_z278⟩ := q_278
  have g_z278 := g_z278.symm
  subst g_z278
  refine vv_istore (lv' := [(13, .int (zI z278)), (0, .ref b), (1, .ref (ad 90)), (2, .ref (ad 105)), (3, .ref (ad 106)), (4, .ref (ad 107)), (5, .ref (ad 108)), (6, .ref (ad 109)), (7, .ref (ad 110)), (8, .ref (ad 111)), (9, .ref (ad 112)), (10, .int (zI i)), (11, .int (zI x))]) X (by decide) rfl dL_law_281 ?_
  refine vv_iconst (n := 4) X dL_law_283 ?_
  refine vv_iload X 0 rfl dL_law_284 ?_
  refine vv_imul X dL_law_286 ?_
  refine vv_istore (lv' := [(14, .int (zI (4 * z278))), (13, .int (zI z278)), (0, .ref b), (1, .ref (ad 90)), (2, .ref (ad 105)), (3, .ref (ad 106)), (4, .ref (ad 107)), (5, .ref (ad 108)), (6, .ref (ad 109)), (7, .ref (ad 110)), (8, .ref (ad 111)), (9, .ref (ad 112)), (10, .int (zI i)), (11, .int (zI x))]) X (by decide) rfl dL_law_287 ?_
  have loop_289 : ∀ (n : Nat) (M_289 : Mem) (a14 : Int), 4 * z278 ≤ a14 ∧ a14 + 4 ≤ 4 * M 105 1 → eqx M M_289 [106] → (∀ j : Nat, M_289 106 j = if 4 * z278 ≤ (j : Int) ∧ (j : Int) < a14 then M 106 (j + 4) else M 106 j) → (4 * M 105 1 - a14).toNat < n → VV p l e room_1 s m #[Value.ref b] below meth c 19 D ad cA (AL s) 113 940 (lw_Z below #[Value.ref b] s) M_289 289 [(0, .ref b), (1, .ref (ad 90)), (2, .ref (ad 105)), (3, .ref (ad 106)), (4, .ref (ad 107)), (5, .ref (ad 108)), (6, .ref (ad 109)), (7, .ref (ad 110)), (8, .ref (ad 111)), (9, .ref (ad 112)), (10, .int (zI i)), (11, .int (zI x)), (13, .int (zI z278)), (14, .int (zI a14))] [] := by
    intro n
    induction n with
    | zero => intro M_289 a14 h14 hE hj hn; exact absurd hn (Nat.not_lt_zero _)
    | succ n ih_289 =>
      intro M_289 a14 h14 hE hj hn
      have e_289_105 : M_289 105 = M 105 := hE 105 (by decide)
      have e_289_107 : M_289 107 = M 107 := hE 107 (by decide)
      have e_289_108 : M_289 108 = M 108 := hE 108 (by decide)
      refine vv_iload X 13 rfl dL_law_289 ?_
      refine vv_iconst (n := 4) X dL_law_291 ?_
      refine vv_iadd X dL_law_292 ?_
      refine vv_iconst (n := 4) X dL_law_293 ?_
      refine vv_aload_n X 2 rfl rfl dL_law_294 ?_
      refine vv_iconst (n := 1) X dL_law_295 ?_
      refine vv_iald (z := (M 105 1)) X (by decide) sh_105 (by decide) (by omega) (show M_289 105 1 = M 105 1 from by rw [e_289_105]) dL_law_296 ?_
      refine vv_imul X dL_law_297 ?_
      refine vv_icmp_ge (tgt := 317) X (by omega) (by omega) dL_law_298 (by decide) (fun c_298 => ?_) (fun c_298 => ?_)
      · skip
        skip
        refine vv_aload_n X 1 rfl rfl dL_law_317 ?_
        refine vv_iload X 12 rfl dL_law_318 ?_
        refine vv_callVI (As := [.int (zI z278)]) (st := []) (Nf := 9) X 1 (c_X8_dismiss l D cA had M_289 z278 (by omega) (HI_c hR.2.2 (fun a ha => hE a (by simp; omega))) (WF_c hR.2.1 (fun a ha => hE a (by simp; omega)))) gL_law_X8_dismiss rfl (by decide +kernel) ⟨by decide, by decide⟩ (Nat.le_of_ble_eq_true rfl) ⟨Nat.le_of_ble_eq_true rfl, Nat.le_of_ble_eq_true rfl⟩ rfl (by decide) sh_90 rfl rfl dL_law_320 (fun z320 Mc320 q_320 => ?_)
        obtain ⟨⟨o320, _, _, hi320, kp320, _⟩, _⟩ := q_320
        rw [vC_c (fun a ha => hE a (by simp; omega))] at o320
        obtain ⟨ez, eA, eW⟩ := det_D hR.1 hR.2.1 o320 (law_D (c := vL M) (x := z278) (show 0 ≤ z278 ∧ z278 < M 105 1 by omega))
        have ez : z320 = M 105 1 - 1 := ez
        refine vv_aload_n X 2 rfl rfl dL_law_323 ?_
        refine vv_iconst (n := 1) X dL_law_324 ?_
        refine vv_dup2 X rfl rfl dL_law_325 ?_
        refine vv_iald (z := (M 105 1)) X (by decide) sh_105 (by decide) (by omega) (show Mc320 105 1 = M 105 1 from by rw [((kp320 105 (by omega)).trans e_289_105)]) dL_law_326 ?_
        refine vv_iconst (n := 1) X dL_law_327 ?_
        refine vv_isub X dL_law_328 ?_
        refine vv_dup_x2 X rfl rfl rfl dL_law_329 ?_
        refine vv_iast (ix := 1) X (by decide) sh_105 (by decide) (by omega) (rfl) dL_law_330 ?_
        refine vv_icmp_eq (tgt := 336) X (by omega) (by omega) dL_law_331 (by decide) (fun c_331 => ?_) (fun c_331 => ?_)
        · skip
          refine vv_goto (tgt := 1029) X (by decide) dL_law_336 ?_
          refine vv_sub (lv' := [(0, .ref b), (1, .ref (ad 90)), (2, .ref (ad 105)), (3, .ref (ad 106)), (4, .ref (ad 107)), (5, .ref (ad 108)), (6, .ref (ad 109)), (7, .ref (ad 110)), (8, .ref (ad 111)), (9, .ref (ad 112)), (10, .int (zI i)), (11, .int (zI x))]) [0, 1, 2, 3, 4, 5, 6, 7, 8, 9, 10, 11] rfl ?_
          exact nx _ (RLL_of hi320 eW eA (fun a ha => by rw [up2_n _ _ _ (by omega)]) (dis_L (M := M) (x := z278) (by omega) (show uz (Mc320 105) 1 (M 105 1 - 1) = _ by rw [((kp320 105 (by omega)).trans e_289_105)]) (fun j hj2 => by
            rw [up2_n _ _ _ (by decide), kp320 106 (by omega), hj j]
            by_cases q : 4 * z278 ≤ (j : Int)
            · rw [if_pos ⟨q, by omega⟩, if_pos q]
            · rw [if_neg (fun w => q w.1), if_neg q]) ((kp320 107 (by omega)).trans e_289_107) ((kp320 108 (by omega)).trans e_289_108)))
        · skip
          omega
      · skip
        refine vv_aload_n X 3 rfl rfl dL_law_301 ?_
        refine vv_iload X 13 rfl dL_law_302 ?_
        refine vv_aload_n X 3 rfl rfl dL_law_304 ?_
        refine vv_iload X 13 rfl dL_law_305 ?_
        refine vv_iconst (n := 4) X dL_law_307 ?_
        refine vv_iadd X dL_law_308 ?_
        refine vv_iald (z := (M 106 (a14 + 4).toNat)) X (by decide) sh_106 (by decide) (by omega) (by rw [hj, if_neg (by omega)]) dL_law_309 ?_
        refine vv_iast (ix := (Int.toNat a14)) X (by decide) sh_106 (by decide) (by omega) (rfl) dL_law_310 ?_
        refine vv_iinc (lv' := [(14, .int (zI (a14 + 1))), (0, .ref b), (1, .ref (ad 90)), (2, .ref (ad 105)), (3, .ref (ad 106)), (4, .ref (ad 107)), (5, .ref (ad 108)), (6, .ref (ad 109)), (7, .ref (ad 110)), (8, .ref (ad 111)), (9, .ref (ad 112)), (10, .int (zI i)), (11, .int (zI x)), (13, .int (zI z278))]) X 13 rfl (by decide) rfl dL_law_311 ?_
        refine vv_goto (tgt := 289) X (by decide) dL_law_314 ?_
        refine vv_sub (lv' := [(0, .ref b), (1, .ref (ad 90)), (2, .ref (ad 105)), (3, .ref (ad 106)), (4, .ref (ad 107)), (5, .ref (ad 108)), (6, .ref (ad 109)), (7, .ref (ad 110)), (8, .ref (ad 111)), (9, .ref (ad 112)), (10, .int (zI i)), (11, .int (zI x)), (13, .int (zI z278)), (14, .int (zI (a14 + 1)))]) [1, 2, 3, 4, 5, 6, 7, 8, 9, 10, 11, 12, 13, 0] rfl ?_
        exact ih_289 (up2 M_289 106 (Int.toNat a14) (M 106 (a14 + 4).toNat)) (a14 + 1) (by omega) (eqx_up _ _ hE (by decide)) (fun j => by
          show uz (M_289 106) (Int.toNat a14) _ j = _
          unfold uz
          by_cases q : j = Int.toNat a14
          · rw [if_pos q, if_pos (by omega)]
            exact congrArg (M 106) (by omega)
          · rw [if_neg q, hj j]
            by_cases q2 : 4 * z278 ≤ (j : Int) ∧ (j : Int) < a14
            · rw [if_pos q2, if_pos (by omega)]
            · rw [if_neg q2, if_neg (by omega)]) (by omega)
  refine vv_sub (lv' := [(0, .ref b), (1, .ref (ad 90)), (2, .ref (ad 105)), (3, .ref (ad 106)), (4, .ref (ad 107)), (5, .ref (ad 108)), (6, .ref (ad 109)), (7, .ref (ad 110)), (8, .ref (ad 111)), (9, .ref (ad 112)), (10, .int (zI i)), (11, .int (zI x)), (13, .int (zI z278)), (14, .int (zI (4 * z278)))]) [2, 3, 4, 5, 6, 7, 8, 9, 10, 11, 12, 13, 1, 0] rfl ?_
  exact loop_289 _ M (4 * z278) (by omega) (eqx_rf _ _) (fun j => by rw [if_neg (by omega)]) (Nat.lt_succ_self _)
set_option maxRecDepth 100000 in
set_option maxHeartbeats 4000000 in
theorem law_prior {p : Program} {l : Launch} {e : Env} {s : State} {m : MethodId} {below : List Frame} {meth : Method} {c : Code} {D : va_G} {ad : Nat → Nat} {cA : Nat → ClassId} {b : Nat} (X : Cx p s m #[Value.ref b] c cL_law RL 19 wsL_law D ad cA (AL s)) {i x : Int} (M : Mem) (hR : RLL M) (nx : ∀ M2 : Mem, RLL M2 → VV p l e room_1 s m #[Value.ref b] below meth c 19 D ad cA (AL s) 113 940 (lw_Z below #[Value.ref b] s) M2 1029 [(0, .ref b), (1, .ref (ad 90)), (2, .ref (ad 105)), (3, .ref (ad 106)), (4, .ref (ad 107)), (5, .ref (ad 108)), (6, .ref (ad 109)), (7, .ref (ad 110)), (8, .ref (ad 111)), (9, .ref (ad 112)), (10, .int (zI i)), (11, .int (zI x))] []) : VV p l e room_1 s m #[Value.ref b] below meth c 19 D ad cA (AL s) 113 940 (lw_Z below #[Value.ref b] s) M 982 [(0, .ref b), (1, .ref (ad 90)), (2, .ref (ad 105)), (3, .ref (ad 106)), (4, .ref (ad 107)), (5, .ref (ad 108)), (6, .ref (ad 109)), (7, .ref (ad 110)), (8, .ref (ad 111)), (9, .ref (ad 112)), (10, .int (zI i)), (11, .int (zI x))] [] := by
  have had := X.2.2.2.1
  have hwl := RLL_wl hR
  have hW : rWR M := hwl.2.1
  have h5 := hW.2.1
  have h50 := hW.1
  have hsm : 1 ≤ M 105 2 ∧ M 105 2 ≤ 6 := WFs_pos hwl.2.2
  have hwb : ∀ k : Nat, (k : Int) < M 105 2 → (1 ≤ M 107 k ∧ M 107 k ≤ 999) ∧ (0 ≤ M 108 k ∧ M 108 k ≤ 100) := fun k hk => WFs_b hwl.2.2 hk
  have hp9 : 1 ≤ M 105 0 ∧ M 105 0 ≤ 99 := hwl.1
  refine vv_iconst (n := 1) X dL_law_982 ?_
  refine vv_iload X 11 rfl dL_law_983 ?_
  refine vv_iconst (n := 4) X dL_law_985 ?_
  obtain ⟨v986, hv986, ev986⟩ := any32 (zI x >>> (zI 4 &&& 31))
  refine vv_ishr (a := v986) X (ev986) dL_law_986 ?_
  refine vv_bipush (n := 99) X (by decide) dL_law_987 ?_
  refine vv_callSI (As := [.int (zI v986), .int (zI 99)]) (st := [.int (zI 1)]) X 2 (c_L_low l D cA had M v986 99 (by omega)) gL_law_L_low rfl (by decide +kernel) ⟨by decide, by decide⟩ (Nat.le_of_ble_eq_true rfl) ⟨Nat.le_of_ble_eq_true rfl, Nat.le_of_ble_eq_true rfl⟩ rfl rfl dL_law_989 (fun z989 Mc989 q_989 => ?_)
  obtain ⟨e_z989, g_z989⟩ := q_989
  have g_z989 := g_z989.symm
  subst g_z989
  refine vv_iadd X dL_law_992 ?_
  obtain ⟨sh9, esh9⟩ : ∃ z : Int, (1 + z989) = z := ⟨_, rfl⟩
  rw [esh9]
  refine vv_istore (lv' := [(13, .int (zI sh9)), (0, .ref b), (1, .ref (ad 90)), (2, .ref (ad 105)), (3, .ref (ad 106)), (4, .ref (ad 107)), (5, .ref (ad 108)), (6, .ref (ad 109)), (7, .ref (ad 110)), (8, .ref (ad 111)), (9, .ref (ad 112)), (10, .int (zI i)), (11, .int (zI x))]) X (by decide) rfl dL_law_993 ?_
  refine vv_aload_n X 2 rfl rfl dL_law_995 ?_
  refine vv_iload X 0 rfl dL_law_996 ?_
  refine vv_callVI (As := [.int (zI sh9)]) (st := []) (Nf := 9) X 1 (c_X8_prior l D cA had M sh9 (by omega) (HI_c hR.2.2 (fun _ _ => rfl)) (WF_c hR.2.1 (fun _ _ => rfl))) gL_law_X8_prior rfl (by decide +kernel) ⟨by decide, by decide⟩ (Nat.le_of_ble_eq_true rfl) ⟨Nat.le_of_ble_eq_true rfl, Nat.le_of_ble_eq_true rfl⟩ rfl (by decide) sh_90 rfl rfl dL_law_998 (fun z998 Mc998 q_998 => ?_)
  obtain ⟨⟨o998, _, _, hi998, kp998, _⟩, _⟩ := q_998
  obtain ⟨ez, eA, eW⟩ := det_P hR.1 hR.2.1 o998 (law_P (c := vL M) (x := sh9) (by omega))
  have ez : z998 = M 105 0 := ez
  refine vv_aload_n X 3 rfl rfl dL_law_1001 ?_
  refine vv_iconst (n := 0) X dL_law_1002 ?_
  refine vv_iald (z := (M 105 0)) X (by decide) sh_105 (by decide) (by omega) (show Mc998 105 0 = M 105 0 from by rw [(kp998 105 (by omega))]) dL_law_1003 ?_
  refine vv_icmp_eq (tgt := 1009) X (by omega) (by omega) dL_law_1004 (by decide) (fun c_1004 => ?_) (fun c_1004 => ?_)
  · skip
    refine vv_aload_n X 3 rfl rfl dL_law_1009 ?_
    refine vv_iconst (n := 0) X dL_law_1010 ?_
    refine vv_iload X 0 rfl dL_law_1011 ?_
    refine vv_iast (ix := 0) X (by decide) sh_105 (by decide) (by omega) (rfl) dL_law_1013 ?_
    refine vv_aload_n X 3 rfl rfl dL_law_1014 ?_
    refine vv_iconst (n := 2) X dL_law_1015 ?_
    refine vv_iconst (n := 1) X dL_law_1016 ?_
    refine vv_iast (ix := 2) X (by decide) sh_105 (by decide) (by omega) (rfl) dL_law_1017 ?_
    refine vv_aload X 5 rfl dL_law_1018 ?_
    refine vv_iconst (n := 0) X dL_law_1020 ?_
    refine vv_iconst (n := 1) X dL_law_1021 ?_
    refine vv_iast (ix := 0) X (by decide) sh_107 (by decide) (by omega) (rfl) dL_law_1022 ?_
    refine vv_aload X 6 rfl dL_law_1023 ?_
    refine vv_iconst (n := 0) X dL_law_1025 ?_
    refine vv_iload X 0 rfl dL_law_1026 ?_
    refine vv_iast (ix := 0) X (by decide) sh_108 (by decide) (by omega) (rfl) dL_law_1028 ?_
    refine vv_sub (lv' := [(0, .ref b), (1, .ref (ad 90)), (2, .ref (ad 105)), (3, .ref (ad 106)), (4, .ref (ad 107)), (5, .ref (ad 108)), (6, .ref (ad 109)), (7, .ref (ad 110)), (8, .ref (ad 111)), (9, .ref (ad 112)), (10, .int (zI i)), (11, .int (zI x))]) [1, 2, 3, 4, 5, 6, 7, 8, 9, 10, 11, 12] rfl ?_
    exact nx _ (RLL_of hi998 eW eA (fun a ha => by rw [up2_n _ _ _ (by omega), up2_n _ _ _ (by omega), up2_n _ _ _ (by omega), up2_n _ _ _ (by omega)]) (pri_L (M := M) (x := sh9) (show uz (uz (Mc998 105) 0 sh9) 2 1 = _ by rw [(kp998 105 (by omega))]) (kp998 106 (by omega)) (show uz (Mc998 107) 0 1 = _ by rw [(kp998 107 (by omega))]) (show uz (Mc998 108) 0 sh9 = _ by rw [(kp998 108 (by omega))])))
  · skip
    omega
set_option maxRecDepth 100000 in
set_option maxHeartbeats 4000000 in
theorem law_same {p : Program} {l : Launch} {e : Env} {s : State} {m : MethodId} {below : List Frame} {meth : Method} {c : Code} {D : va_G} {ad : Nat → Nat} {cA : Nat → ClassId} {b : Nat} (X : Cx p s m #[Value.ref b] c cL_law RL 19 wsL_law D ad cA (AL s)) {i x : Int} (M : Mem) (hR : RLL M) (nx : ∀ M2 : Mem, RLL M2 → VV p l e room_1 s m #[Value.ref b] below meth c 19 D ad cA (AL s) 113 940 (lw_Z below #[Value.ref b] s) M2 75 [(0, .ref b), (1, .ref (ad 90)), (2, .ref (ad 105)), (3, .ref (ad 106)), (4, .ref (ad 107)), (5, .ref (ad 108)), (6, .ref (ad 109)), (7, .ref (ad 110)), (8, .ref (ad 111)), (9, .ref (ad 112)), (10, .int (zI (i + 1)))] []) : VV p l e room_1 s m #[Value.ref b] below meth c 19 D ad cA (AL s) 113 940 (lw_Z below #[Value.ref b] s) M 1029 [(0, .ref b), (1, .ref (ad 90)), (2, .ref (ad 105)), (3, .ref (ad 106)), (4, .ref (ad 107)), (5, .ref (ad 108)), (6, .ref (ad 109)), (7, .ref (ad 110)), (8, .ref (ad 111)), (9, .ref (ad 112)), (10, .int (zI i)), (11, .int (zI x))] [] := by
  have had := X.2.2.2.1
  skip
  refine vv_aload_n X 1 rfl rfl dL_law_1029 ?_
  refine vv_iload X 11 rfl dL_law_1030 ?_
  refine vv_iconst (n := 5) X dL_law_1032 ?_
  obtain ⟨v1033, hv1033, ev1033⟩ := any32 (zI x >>> (zI 5 &&& 31))
  refine vv_ishr (a := v1033) X (ev1033) dL_law_1033 ?_
  refine vv_aload_n X 2 rfl rfl dL_law_1034 ?_
  refine vv_aload_n X 3 rfl rfl dL_law_1035 ?_
  refine vv_aload X 4 rfl dL_law_1036 ?_
  refine vv_aload X 5 rfl dL_law_1038 ?_
  refine vv_aload X 6 rfl dL_law_1040 ?_
  refine vv_callSI (As := [.ref (ad 90), .int (zI v1033), .ref (ad 105), .ref (ad 106), .ref (ad 107), .ref (ad 108), .ref (ad 109)]) (st := []) X 7 (c_L_same l D cA had M v1033 (by omega) (hR)) gL_law_L_same rfl (by decide +kernel) ⟨by decide, by decide⟩ (Nat.le_of_ble_eq_true rfl) ⟨Nat.le_of_ble_eq_true rfl, Nat.le_of_ble_eq_true rfl⟩ rfl rfl dL_law_1042 (fun z1042 Mc1042 q_1042 => ?_)
  obtain ⟨ez, eE⟩ := q_1042
  refine vv_if_ne (tgt := 1050) X (by omega) dL_law_1045 (by decide) (fun c_1045 => ?_) (fun c_1045 => ?_)
  · skip
    refine vv_iinc (lv' := [(10, .int (zI (i + 1))), (0, .ref b), (1, .ref (ad 90)), (2, .ref (ad 105)), (3, .ref (ad 106)), (4, .ref (ad 107)), (5, .ref (ad 108)), (6, .ref (ad 109)), (7, .ref (ad 110)), (8, .ref (ad 111)), (9, .ref (ad 112)), (11, .int (zI x))]) X 10 rfl (by decide) rfl dL_law_1050 ?_
    refine vv_goto (tgt := 75) X (by decide) dL_law_1053 ?_
    refine vv_sub (lv' := [(0, .ref b), (1, .ref (ad 90)), (2, .ref (ad 105)), (3, .ref (ad 106)), (4, .ref (ad 107)), (5, .ref (ad 108)), (6, .ref (ad 109)), (7, .ref (ad 110)), (8, .ref (ad 111)), (9, .ref (ad 112)), (10, .int (zI (i + 1)))]) [1, 2, 3, 4, 5, 6, 7, 8, 9, 10, 0] rfl ?_
    exact nx _ (RLL_q hR eE)
  · skip
    omega
