set_option maxRecDepth 100000 in
set_option maxHeartbeats 4000000 in
theorem same_B1 {p : Program} {l : Launch} {e : Env} {s : State} {m : MethodId} {args : Array Value} {below : List Frame} {meth : Method} {c : Code} {D : va_G} {ad : Nat → Nat} {cA : Nat → ClassId} (X : Cx p s m args c cL_same yL_same.cls 17 wsL_same D ad cA (Afr ad s.heap.size)) (hm : Mt meth (some .boolean)) {x a7 a8 r9 b10 f11 : Int} {r : Nat} (M Ms : Mem) (hR : RLL M) (hs : eqx M Ms E9) (g9 : r9 = (r : Int)) (gr : (r : Int) < M 105 1) (e7 : a7 = mnT (vL M)) (e10 : b10 = woS (vL M) r) (wb10 : 0 ≤ b10 ∧ b10 ≤ 100000000) (hf : 0 ≤ f11 ∧ f11 ≤ 100) (hya : ac (rL M) (rG M) f11 r) (hfy : ∀ y : Int, 0 ≤ y → y < f11 → ¬ ac (rL M) (rG M) y r) (nx : ∀ N : Mem, eqx M N E9 → VV p l e { frames := 6, cells := 0, slots := 0, locals := 133 } s m args below meth c 17 D ad cA (Afr ad s.heap.size) 0 0 (QI below args s D ad cA (fun z M1 => z = 1 ∧ eqx M M1 E9)) N 366 [(0, .ref (ad 90)), (1, .int (zI x)), (2, .ref (ad 105)), (3, .ref (ad 106)), (4, .ref (ad 107)), (5, .ref (ad 108)), (6, .ref (ad 109)), (7, .int (zI a7)), (8, .int (zI a8)), (9, .int (zI r9))] []) : VV p l e { frames := 6, cells := 0, slots := 0, locals := 133 } s m args below meth c 17 D ad cA (Afr ad s.heap.size) 0 0 (QI below args s D ad cA (fun z M1 => z = 1 ∧ eqx M M1 E9)) Ms 239 [(0, .ref (ad 90)), (1, .int (zI x)), (2, .ref (ad 105)), (3, .ref (ad 106)), (4, .ref (ad 107)), (5, .ref (ad 108)), (6, .ref (ad 109)), (7, .int (zI a7)), (8, .int (zI a8)), (9, .int (zI r9)), (10, .int (zI b10)), (11, .int (zI f11))] [] := by
  have had := X.2.2.2.1
  have hwl := RLL_wl hR
  have hW : rWR M := hwl.2.1
  have h5 := hW.2.1
  have h50 := hW.1
  have hsm : 1 ≤ M 105 2 ∧ M 105 2 ≤ 6 := WFs_pos hwl.2.2
  have hwb : ∀ k : Nat, (k : Int) < M 105 2 → (1 ≤ M 107 k ∧ M 107 k ≤ 999) ∧ (0 ≤ M 108 k ∧ M 108 k ≤ 100) := fun k hk => WFs_b hwl.2.2 hk
  have hp9 : 1 ≤ M 105 0 ∧ M 105 0 ≤ 99 := hwl.1
  have hvb : ∀ y : Int, -495 ≤ rvl M y ∧ rvl M y ≤ 990 := fun y => vl_b hW.2
  have hT := mnT_b hwl
  rw [← e7] at hT
  have e100 : 100 * a7 = mnT (vL M) * 100 := by rw [← e7]; omega
  have i91 : r9.toNat = r := by omega
  have j0 : (4 * r9).toNat = 4 * r := by omega
  have j1 : (4 * r9 + 1).toNat = 4 * r + 1 := by omega
  have j2 : (4 * r9 + 2).toNat = 4 * r + 2 := by omega
  have j3 : (4 * r9 + 3).toNat = 4 * r + 3 := by omega
  have hw8 : (1 ≤ M 106 (4 * r) ∧ M 106 (4 * r) ≤ 99) ∧ (1 ≤ M 106 (4 * r + 1) ∧ M 106 (4 * r + 1) ≤ 99) ∧ (0 ≤ M 106 (4 * r + 2) ∧ M 106 (4 * r + 2) ≤ 99) ∧ (-99 ≤ M 106 (4 * r + 3) ∧ M 106 (4 * r + 3) ≤ 99) := hW.2.2 r (by omega)
  refine vv_iload X 10 rfl dL_same_239 ?_
  refine vv_bipush (n := 100) X (by decide) dL_same_241 ?_
  refine vv_iload X 7 rfl dL_same_243 ?_
  refine vv_imul X dL_same_245 ?_
  refine vv_aload X 6 rfl dL_same_246 ?_
  refine vv_callSV (As := [.int (zI b10), .int (zI (100 * a7)), .ref (ad 109)]) (st := []) X 3 (c_L_least l D cA had Ms b10 (100 * a7) (by omega) (by omega) (by omega)) gL_same_L_least rfl (by decide +kernel) ⟨by decide, by decide⟩ (Nat.le_of_ble_eq_true rfl) ⟨by decide, by decide⟩ rfl rfl dL_same_248 (fun Mc248 q_248 => ?_)
  have q_248 := q_248.symm
  subst q_248
  obtain ⟨N251, h_N251⟩ : ∃ N : Mem, N = (up2 (up2 Ms 109 0 (frA b10 (100 * a7))) 109 1 (frB b10 (100 * a7))) := ⟨_, rfl⟩
  rw [← h_N251]
  have EN251 : eqx M N251 E9 := by rw [h_N251]; exact eqx_up _ _ (eqx_up _ _ hs (by decide)) (by decide)
  have f251a : N251 109 0 = frA (woS (vL M) r) (mnT (vL M) * 100) := by rw [h_N251, ← e10, ← e100]; rfl
  have f251b : N251 109 1 = frB (woS (vL M) r) (mnT (vL M) * 100) := by rw [h_N251, ← e10, ← e100]; rfl
  have hfw := fr_b2 (a := woS (vL M) r) (b := mnT (vL M) * 100) (A := 1073741824) (by omega) (by omega)
  refine vv_aload_n X 0 rfl rfl dL_same_251 ?_
  refine vv_iload X 9 rfl dL_same_252 ?_
  refine vv_iconst (n := 0) X dL_same_254 ?_
  refine vv_callVI (As := [.int (zI r9), .int (zI 0)]) (st := []) (Nf := 9) X 2 (c_X8_receiver l D cA had N251 r9 0 (by omega) (by omega) (RLL_q hR EN251).2.1) gL_same_X8_receiver rfl (by decide +kernel) ⟨by decide, by decide⟩ (Nat.le_of_ble_eq_true rfl) ⟨by decide, by decide⟩ rfl (by decide) sh_90 rfl rfl dL_same_255 (fun z255 Mc255 q_255 => ?_)
  obtain ⟨Q255, F255⟩ := q_255
  have E255 : eqx M Mc255 E9 := eqx_tr EN251 (eqx_mono F255 (by decide))
  have e_z255 : z255 = M 106 (4 * r) := by
    have q := S_rec0 hR EN251 (by omega) Q255
    rw [i91] at q
    exact q
  refine vv_aload_n X 3 rfl rfl dL_same_258 ?_
  refine vv_iconst (n := 4) X dL_same_259 ?_
  refine vv_iload X 9 rfl dL_same_260 ?_
  refine vv_imul X dL_same_262 ?_
  refine vv_iald (z := (M 106 (4 * r))) X (by decide) sh_106 (by decide) (by omega) (by first | (rw [j0]; done) | (rw [j0]; exact (show Mc255 106 (4 * r) = M 106 (4 * r) from by rw [(E255 106 (by decide))]))) dL_same_263 ?_
  refine vv_icmp_ne (tgt := 364) X (by omega) (by omega) dL_same_264 (by decide) (fun c_264 => ?_) (fun c_264 => ?_)
  · skip
    omega
  · skip
    refine vv_aload_n X 0 rfl rfl dL_same_267 ?_
    refine vv_iload X 9 rfl dL_same_268 ?_
    refine vv_iconst (n := 1) X dL_same_270 ?_
    refine vv_callVI (As := [.int (zI r9), .int (zI 1)]) (st := []) (Nf := 9) X 2 (c_X8_receiver l D cA had Mc255 r9 1 (by omega) (by omega) (RLL_q hR E255).2.1) gL_same_X8_receiver rfl (by decide +kernel) ⟨by decide, by decide⟩ (Nat.le_of_ble_eq_true rfl) ⟨by decide, by decide⟩ rfl (by decide) sh_90 rfl rfl dL_same_271 (fun z271 Mc271 q_271 => ?_)
    obtain ⟨Q271, F271⟩ := q_271
    have E271 : eqx M Mc271 E9 := eqx_tr E255 (eqx_mono F271 (by decide))
    have e_z271 : z271 = M 106 (4 * r + 1) := by
      have q := S_rec1 hR E255 (by omega) Q271
      rw [i91] at q
      exact q
    refine vv_aload_n X 3 rfl rfl dL_same_274 ?_
    refine vv_iconst (n := 4) X dL_same_275 ?_
    refine vv_iload X 9 rfl dL_same_276 ?_
    refine vv_imul X dL_same_278 ?_
    refine vv_iconst (n := 1) X dL_same_279 ?_
    refine vv_iadd X dL_same_280 ?_
    refine vv_iald (z := (M 106 (4 * r + 1))) X (by decide) sh_106 (by decide) (by omega) (by first | (rw [j1]; done) | (rw [j1]; exact (show Mc271 106 (4 * r + 1) = M 106 (4 * r + 1) from by rw [(E271 106 (by decide))]))) dL_same_281 ?_
    refine vv_icmp_ne (tgt := 364) X (by omega) (by omega) dL_same_282 (by decide) (fun c_282 => ?_) (fun c_282 => ?_)
    · skip
      omega
    · skip
      refine vv_aload_n X 0 rfl rfl dL_same_285 ?_
      refine vv_iload X 9 rfl dL_same_286 ?_
      refine vv_iconst (n := 2) X dL_same_288 ?_
      refine vv_callVI (As := [.int (zI r9), .int (zI 2)]) (st := []) (Nf := 9) X 2 (c_X8_receiver l D cA had Mc271 r9 2 (by omega) (by omega) (RLL_q hR E271).2.1) gL_same_X8_receiver rfl (by decide +kernel) ⟨by decide, by decide⟩ (Nat.le_of_ble_eq_true rfl) ⟨by decide, by decide⟩ rfl (by decide) sh_90 rfl rfl dL_same_289 (fun z289 Mc289 q_289 => ?_)
      obtain ⟨Q289, F289⟩ := q_289
      have E289 : eqx M Mc289 E9 := eqx_tr E271 (eqx_mono F289 (by decide))
      have e_z289 : z289 = M 106 (4 * r + 2) := by
        have q := S_rec2 hR E271 (by omega) Q289
        rw [i91] at q
        exact q
      refine vv_aload_n X 3 rfl rfl dL_same_292 ?_
      refine vv_iconst (n := 4) X dL_same_293 ?_
      refine vv_iload X 9 rfl dL_same_294 ?_
      refine vv_imul X dL_same_296 ?_
      refine vv_iconst (n := 2) X dL_same_297 ?_
      refine vv_iadd X dL_same_298 ?_
      refine vv_iald (z := (M 106 (4 * r + 2))) X (by decide) sh_106 (by decide) (by omega) (by first | (rw [j2]; done) | (rw [j2]; exact (show Mc289 106 (4 * r + 2) = M 106 (4 * r + 2) from by rw [(E289 106 (by decide))]))) dL_same_299 ?_
      refine vv_icmp_ne (tgt := 364) X (by omega) (by omega) dL_same_300 (by decide) (fun c_300 => ?_) (fun c_300 => ?_)
      · skip
        omega
      · skip
        refine vv_aload_n X 0 rfl rfl dL_same_303 ?_
        refine vv_iload X 9 rfl dL_same_304 ?_
        refine vv_iconst (n := 3) X dL_same_306 ?_
        refine vv_callVI (As := [.int (zI r9), .int (zI 3)]) (st := []) (Nf := 9) X 2 (c_X8_receiver l D cA had Mc289 r9 3 (by omega) (by omega) (RLL_q hR E289).2.1) gL_same_X8_receiver rfl (by decide +kernel) ⟨by decide, by decide⟩ (Nat.le_of_ble_eq_true rfl) ⟨by decide, by decide⟩ rfl (by decide) sh_90 rfl rfl dL_same_307 (fun z307 Mc307 q_307 => ?_)
        obtain ⟨Q307, F307⟩ := q_307
        have E307 : eqx M Mc307 E9 := eqx_tr E289 (eqx_mono F307 (by decide))
        have e_z307 : z307 = M 106 (4 * r + 3) + 100 := by
          have q := S_rec3 hR E289 (by omega) Q307
          rw [i91] at q
          exact q
        refine vv_aload_n X 3 rfl rfl dL_same_310 ?_
        refine vv_iconst (n := 4) X dL_same_311 ?_
        refine vv_iload X 9 rfl dL_same_312 ?_
        refine vv_imul X dL_same_314 ?_
        refine vv_iconst (n := 3) X dL_same_315 ?_
        refine vv_iadd X dL_same_316 ?_
        refine vv_iald (z := (M 106 (4 * r + 3))) X (by decide) sh_106 (by decide) (by omega) (by first | (rw [j3]; done) | (rw [j3]; exact (show Mc307 106 (4 * r + 3) = M 106 (4 * r + 3) from by rw [(E307 106 (by decide))]))) dL_same_317 ?_
        refine vv_bipush (n := 100) X (by decide) dL_same_318 ?_
        refine vv_iadd X dL_same_320 ?_
        refine vv_icmp_ne (tgt := 364) X (by omega) (by omega) dL_same_321 (by decide) (fun c_321 => ?_) (fun c_321 => ?_)
        · skip
          omega
        · skip
          refine vv_aload_n X 0 rfl rfl dL_same_324 ?_
          refine vv_iload X 9 rfl dL_same_325 ?_
          refine vv_iconst (n := 4) X dL_same_327 ?_
          refine vv_callVI (As := [.int (zI r9), .int (zI 4)]) (st := []) (Nf := 9) X 2 (c_X8_receiver l D cA had Mc307 r9 4 (by omega) (by omega) (RLL_q hR E307).2.1) gL_same_X8_receiver rfl (by decide +kernel) ⟨by decide, by decide⟩ (Nat.le_of_ble_eq_true rfl) ⟨by decide, by decide⟩ rfl (by decide) sh_90 rfl rfl dL_same_328 (fun z328 Mc328 q_328 => ?_)
          obtain ⟨Q328, F328⟩ := q_328
          have E328 : eqx M Mc328 E9 := eqx_tr E307 (eqx_mono F328 (by decide))
          have e_z328 : z328 = f11 := S_rec4 hR E307 (by omega) Q328 hf (by rw [i91]; exact hya) (fun y q1 q2 => by rw [i91]; exact hfy y q1 q2)
          refine vv_iload X 11 rfl dL_same_331 ?_
          refine vv_icmp_ne (tgt := 364) X (by omega) (by omega) dL_same_333 (by decide) (fun c_333 => ?_) (fun c_333 => ?_)
          · skip
            omega
          · skip
            refine vv_aload_n X 0 rfl rfl dL_same_336 ?_
            refine vv_iload X 9 rfl dL_same_337 ?_
            refine vv_iconst (n := 0) X dL_same_339 ?_
            refine vv_callVI (As := [.int (zI r9), .int (zI 0)]) (st := []) (Nf := 9) X 2 (c_X8_worth l D cA had Mc328 r9 0 (by omega) (by omega) (RLL_q hR E328).2.1) gL_same_X8_worth rfl (by decide +kernel) ⟨by decide, by decide⟩ (Nat.le_of_ble_eq_true rfl) ⟨by decide, by decide⟩ rfl (by decide) sh_90 rfl rfl dL_same_340 (fun z340 Mc340 q_340 => ?_)
            obtain ⟨Q340, F340⟩ := q_340
            have E340 : eqx M Mc340 E9 := eqx_tr E328 (eqx_mono F340 (by decide))
            have e_z340 : z340 = frA (woS (vL M) r) (mnT (vL M) * 100) := by
              have q := S_wor0 hR E328 (by omega) Q340
              rw [i91] at q
              exact q
            refine vv_aload X 6 rfl dL_same_343 ?_
            refine vv_iconst (n := 0) X dL_same_345 ?_
            refine vv_iald (z := (N251 109 0)) X (by decide) sh_109 (by decide) (by omega) (show Mc340 109 0 = N251 109 0 from by rw [((F340 109 (by decide)).trans ((F328 109 (by decide)).trans ((F307 109 (by decide)).trans ((F289 109 (by decide)).trans ((F271 109 (by decide)).trans ((F255 109 (by decide)).trans rfl))))))]) dL_same_346 ?_
            refine vv_icmp_ne (tgt := 364) X (by omega) (by omega) dL_same_347 (by decide) (fun c_347 => ?_) (fun c_347 => ?_)
            · skip
              omega
            · skip
              refine vv_aload_n X 0 rfl rfl dL_same_350 ?_
              refine vv_iload X 9 rfl dL_same_351 ?_
              refine vv_iconst (n := 1) X dL_same_353 ?_
              refine vv_callVI (As := [.int (zI r9), .int (zI 1)]) (st := []) (Nf := 9) X 2 (c_X8_worth l D cA had Mc340 r9 1 (by omega) (by omega) (RLL_q hR E340).2.1) gL_same_X8_worth rfl (by decide +kernel) ⟨by decide, by decide⟩ (Nat.le_of_ble_eq_true rfl) ⟨by decide, by decide⟩ rfl (by decide) sh_90 rfl rfl dL_same_354 (fun z354 Mc354 q_354 => ?_)
              obtain ⟨Q354, F354⟩ := q_354
              have E354 : eqx M Mc354 E9 := eqx_tr E340 (eqx_mono F354 (by decide))
              have e_z354 : z354 = frB (woS (vL M) r) (mnT (vL M) * 100) := by
                have q := S_wor1 hR E340 (by omega) Q354
                rw [i91] at q
                exact q
              refine vv_aload X 6 rfl dL_same_357 ?_
              refine vv_iconst (n := 1) X dL_same_359 ?_
              refine vv_iald (z := (N251 109 1)) X (by decide) sh_109 (by decide) (by omega) (show Mc354 109 1 = N251 109 1 from by rw [((F354 109 (by decide)).trans ((F340 109 (by decide)).trans ((F328 109 (by decide)).trans ((F307 109 (by decide)).trans ((F289 109 (by decide)).trans ((F271 109 (by decide)).trans ((F255 109 (by decide)).trans rfl)))))))]) dL_same_360 ?_
              refine vv_icmp_eq (tgt := 366) X (by omega) (by omega) dL_same_361 (by decide) (fun c_361 => ?_) (fun c_361 => ?_)
              · skip
                refine vv_sub (lv' := [(0, .ref (ad 90)), (1, .int (zI x)), (2, .ref (ad 105)), (3, .ref (ad 106)), (4, .ref (ad 107)), (5, .ref (ad 108)), (6, .ref (ad 109)), (7, .int (zI a7)), (8, .int (zI a8)), (9, .int (zI r9))]) [0, 1, 2, 3, 4, 5, 6, 7, 8, 9] rfl ?_
                exact nx Mc354 E354
              · skip
                omega
