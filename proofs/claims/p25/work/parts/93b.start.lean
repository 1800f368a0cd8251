/-! ===== from the entry ===== -/
theorem tb_i0 : Cond.instantiable RX0 7 ∈ lw_tbl := List.mem_of_getElem? (i := 168) (by decide +kernel)
theorem tb_i1 : Cond.instantiable RX1 2 ∈ lw_tbl := List.mem_of_getElem? (i := 200) (by decide +kernel)
theorem tb_i2 : Cond.instantiable RX2 3 ∈ lw_tbl := List.mem_of_getElem? (i := 110) (by decide +kernel)
theorem tb_i3 : Cond.instantiable RX3 1 ∈ lw_tbl := List.mem_of_getElem? (i := 158) (by decide +kernel)
theorem tb_i4 : Cond.instantiable RX4 6 ∈ lw_tbl := List.mem_of_getElem? (i := 130) (by decide +kernel)
theorem tb_i5 : Cond.instantiable RX5 5 ∈ lw_tbl := List.mem_of_getElem? (i := 36) (by decide +kernel)
theorem tb_i6 : Cond.instantiable RX6 3 ∈ lw_tbl := List.mem_of_getElem? (i := 64) (by decide +kernel)
theorem tb_i7 : Cond.instantiable RX7 3 ∈ lw_tbl := List.mem_of_getElem? (i := 30) (by decide +kernel)
theorem tb_i8 : Cond.instantiable RX8 9 ∈ lw_tbl := List.mem_of_getElem? (i := 22) (by decide +kernel)
theorem tb_n7_11 : Cond.methodLinkNest RX7 11 yX5_init RX8 ∈ lw_tbl := List.mem_of_getElem? (i := 37) (by decide +kernel)
theorem tb_n7_20 : Cond.methodLinkNest RX7 20 yX6_init RX8 ∈ lw_tbl := List.mem_of_getElem? (i := 65) (by decide +kernel)
theorem tb_n8_33 : Cond.methodLinkNest RX8 33 yX4_init RX8 ∈ lw_tbl := List.mem_of_getElem? (i := 131) (by decide +kernel)
theorem tb_n8_40 : Cond.methodLinkNest RX8 40 yX3_init RX8 ∈ lw_tbl := List.mem_of_getElem? (i := 159) (by decide +kernel)
theorem tb_n8_47 : Cond.methodLinkNest RX8 47 yX0_init RX8 ∈ lw_tbl := List.mem_of_getElem? (i := 169) (by decide +kernel)
theorem tb_n8_54 : Cond.methodLinkNest RX8 54 yX1_init RX8 ∈ lw_tbl := List.mem_of_getElem? (i := 201) (by decide +kernel)
theorem tb_n0_44 : Cond.methodLinkNest RX0 44 yX8_commonDivisor RX8 ∈ lw_tbl := List.mem_of_getElem? (i := 388) (by decide +kernel)
theorem tb_n1_16 : Cond.methodLinkNest RX1 16 yX8_commonDivisor RX8 ∈ lw_tbl := List.mem_of_getElem? (i := 468) (by decide +kernel)
theorem tb_n3_34 : Cond.methodLinkNest RX3 34 yX8_isPosterior RX8 ∈ lw_tbl := List.mem_of_getElem? (i := 325) (by decide +kernel)
theorem tb_n3_38 : Cond.methodLinkNest RX3 38 yX8_commonDivisor RX8 ∈ lw_tbl := List.mem_of_getElem? (i := 337) (by decide +kernel)
theorem tb_aint : Cond.arrayClass .int ∈ lw_tbl := List.mem_of_getElem? (i := 62) (by decide +kernel)
theorem tb_achar : Cond.arrayClass .char ∈ lw_tbl := List.mem_of_getElem? (i := 156) (by decide +kernel)
theorem tb_aboolean : Cond.arrayClass .boolean ∈ lw_tbl := List.mem_of_getElem? (i := 155) (by decide +kernel)
theorem tb_ao : Cond.arrayOver (.object RX7) ∈ lw_tbl := List.mem_of_getElem? (i := 116) (by decide +kernel)
section LR4
variable {p : Program} {l : Launch} {e : Env} {R : Room} {s : State} {m : MethodId} {args : Array Value} {below : List Frame} {meth : Method} {c : Code} {Q : State → Prop} {cells slots : Nat}
variable {cc : ByteArray} {own : String} {nL : Nat} {Ts : List Cond} {D : va_G} {cA : Nat → ClassId} {A : Nat → Prop} {ws ws' : va_W} {pc : Nat} {lv lv' : List (Nat × Value)} {st : List Value}
theorem ll_astore_n (X : Cn p s m args c cc own nL Ts D cA A) {q : Fin 4} {i : Nat} {x : Nat} (hi : (q : Nat) = i) (hn : i < nL) (hv : (i, Value.ref x) :: lv.filter (fun q => !(q.1 == i) && !(q.1 + 1 == i && q.2.category == 2)) = lv') (hdg : decode cc pc = .ok (.astore_n q, 1)) (k : LL p l e R s m args below meth c nL D A cells slots Q ws (pc + 1) lv' st) : LL p l e R s m args below meth c nL D A cells slots Q ws pc lv (.ref x :: st) := fun H locs ls hP hD hS hl => lv_astore_n X.1.1 X.1.2.1 hdg hi hl hn hv (fun ls hl => (k H locs ls hP hD hS hl))
theorem ll_astore (X : Cn p s m args c cc own nL Ts D cA A) {i : Nat} {x : Nat} (hn : i < nL) (hv : (i, Value.ref x) :: lv.filter (fun q => !(q.1 == i) && !(q.1 + 1 == i && q.2.category == 2)) = lv') (hdg : decode cc pc = .ok (.astore i, 2)) (k : LL p l e R s m args below meth c nL D A cells slots Q ws (pc + 2) lv' st) : LL p l e R s m args below meth c nL D A cells slots Q ws pc lv (.ref x :: st) := fun H locs ls hP hD hS hl => lv_astore X.1.1 X.1.2.1 hdg hl hn hv (fun ls hl => (k H locs ls hP hD hS hl))
end LR4
set_option maxRecDepth 100000 in
set_option maxHeartbeats 8000000 in
theorem whole_start {p : Program} {e : Env} {s : State} {m : MethodId} {below : List Frame} {meth : Method} {c : Code} (l : Launch) (hflags : l.flags = flags0) {b L : Nat} {xs : Nat → Int32} (hL : L ≤ 260) (C0 : lw_At p s m meth c b L xs) : W p l e room_1 s m #[Value.ref b] below meth c s.heap [] 0 0 (lw_Z below #[Value.ref b] s) (entryFrame m ([Value.ref b] : List Value).toArray 19) := by
  obtain ⟨hx, hb, hr, hml, hown, hts, hX, hbl, hlocks, hgv⟩ := id C0
  obtain ⟨c0, iS0, hKn0⟩ := u_known (C := RX0) (T := TX0) (N := 7) (n := 7) hts inX0 (hts _ tb_i0)
  obtain ⟨c1, iS1, hKn1⟩ := u_known (C := RX1) (T := TX1) (N := 2) (n := 2) hts inX1 (hts _ tb_i1)
  obtain ⟨c2, iS2, hKn2⟩ := u_known (C := RX2) (T := TX2) (N := 3) (n := 3) hts inX2 (hts _ tb_i2)
  obtain ⟨c3, iS3, hKn3⟩ := u_known (C := RX3) (T := TX3) (N := 1) (n := 1) hts inX3 (hts _ tb_i3)
  obtain ⟨c4, iS4, hKn4⟩ := u_known (C := RX4) (T := TX4) (N := 6) (n := 6) hts inX4 (hts _ tb_i4)
  obtain ⟨c5, iS5, hKn5⟩ := u_known (C := RX5) (T := TX5) (N := 5) (n := 5) hts inX5 (hts _ tb_i5)
  obtain ⟨c6, iS6, hKn6⟩ := u_known (C := RX6) (T := TX6) (N := 3) (n := 3) hts inX6 (hts _ tb_i6)
  obtain ⟨c7, iS7, hKn7⟩ := u_known (C := RX7) (T := TX7) (N := 3) (n := 3) hts inX7 (hts _ tb_i7)
  obtain ⟨c8, iS8, hKn8⟩ := u_known (C := RX8) (T := TX8) (N := 9) (n := 9) hts inX8 (hts _ tb_i8)
  obtain ⟨dC, dI, hKc⟩ : ∃ (dC : Nat → ClassId) (dI : Nat → Nat → Nat), ∀ (k : Nat) (q : vw_C), vwCl[k]? = some q → u_Kn s q.1 q.2.1 q.2.2 (dC k) (dI k) := by
    refine ⟨fun k => [c0, c1, c2, c3, c4, c5, c6, c7, c8].getD k c0, fun k => [iS0, iS1, iS2, iS3, iS4, iS5, iS6, iS7, iS8].getD k iS0, ?_⟩
    intro k q hq
    match k, hq with
    | 0, hq => cases hq; exact hKn0
    | 1, hq => cases hq; exact hKn1
    | 2, hq => cases hq; exact hKn2
    | 3, hq => cases hq; exact hKn3
    | 4, hq => cases hq; exact hKn4
    | 5, hq => cases hq; exact hKn5
    | 6, hq => cases hq; exact hKn6
    | 7, hq => cases hq; exact hKn7
    | 8, hq => cases hq; exact hKn8
    | k + 9, hq => simp [vwCl] at hq
  obtain ⟨ca, ka, pa, a1, a2, a3⟩ := Cond.arrayClass_spec (hts _ tb_aint)
  obtain ⟨cc, kc, pc, b1, b2, b3⟩ := Cond.arrayClass_spec (hts _ tb_achar)
  obtain ⟨cb, kb, pb, d1, d2, d3⟩ := Cond.arrayClass_spec (hts _ tb_aboolean)
  obtain ⟨po, co, ko, o1, o2, o3, o4, o5⟩ := Cond.arrayOver_spec (hts _ tb_ao)
  obtain ⟨cA, hKt⟩ : ∃ cA : Nat → ClassId, ∀ (k : Nat) (q : ClassId × FieldType), (tyL cA)[k]? = some q → ArrOfT s q.1 q.2 ∧ va_RA s q.1 q.2 := by
    refine ⟨fun k => [ca, cc, cb, co].getD k ca, ?_⟩
    intro k q hq
    match k, hq with
    | 0, hq => cases hq; exact ⟨fun n z => ⟨fun k h => (by cases h), ka, a2, pa, a3⟩, a1⟩
    | 1, hq => cases hq; exact ⟨fun n z => ⟨fun k h => (by cases h), kc, b2, pc, b3⟩, b1⟩
    | 2, hq => cases hq; exact ⟨fun n z => ⟨fun k h => (by cases h), kb, d2, pb, d3⟩, d1⟩
    | 3, hq => cases hq; exact ⟨fun n z => ⟨fun k h => (by cases h), ko, o3, po, o4⟩, ⟨ko, po, o3, o4, o1, o5⟩⟩
    | k + 4, hq => simp [tyL] at hq
  have hK : va_K (dC, dI) vwCl (tyL cA) s := ⟨hKc, hKt⟩
  have hI : vNi s := ⟨va_Nw.of rfl (hts _ tb_n7_11), va_Nw.of rfl (hts _ tb_n7_20), va_Nw.of rfl (hts _ tb_n8_33), va_Nw.of rfl (hts _ tb_n8_40), va_Nw.of rfl (hts _ tb_n8_47), va_Nw.of rfl (hts _ tb_n8_54), va_AO.of (hts _ tb_ao)⟩
  have hN : vNs s := ⟨va_Nw.of rfl (hts _ tb_n0_44), va_Nw.of rfl (hts _ tb_n1_16), va_Nw.of rfl (hts _ tb_n3_34), va_Nw.of rfl (hts _ tb_n3_38)⟩
  have htsL : ∀ w ∈ wsL_law, w.before #[Value.ref b] s = true := fun w h => hts w (wsL_law_in w h)
  have X : Cn p s m #[Value.ref b] c cL_law RL 19 wsL_law (dC, dI) cA (AL s) := ⟨⟨hx, hb, hml, hown, htsL⟩, hK, hI, hN, fun q h => h⟩
  have key : LL p l e room_1 s m #[Value.ref b] below meth c 19 (dC, dI) (AL s) 0 0 (lw_Z below #[Value.ref b] s) [] 0 [(0, .ref b)] [] := by
    refine ll_new (C := RX8) (T := TX8) (N := 9) (ci := 8) (fs := [.null, .null, .null, .null, .null, .null, .null, .null, .null]) X inlX8 tyX8 tyX8_ok (by decide +kernel) (by decide +kernel) (by decide +kernel) rfl (fun j hj => by rcases (show j = 0 ∨ j = 1 ∨ j = 2 ∨ j = 3 ∨ j = 4 ∨ j = 5 ∨ j = 6 ∨ j = 7 ∨ j = 8 by omega) with rfl | rfl | rfl | rfl | rfl | rfl | rfl | rfl | rfl <;> rfl) ⟨Nat.le_of_ble_eq_true rfl, Nat.le_of_ble_eq_true rfl⟩ dL_law_0 (fun q0 => ?_)
    refine ll_dup X rfl dL_law_3 ?_
    refine ll_callI (As := []) (st := [.ref q0]) X 0 (i_X8 l (dC, dI) cA q0) gL_law_X8_init rfl (by decide +kernel) (by decide +kernel) (by decide +kernel) rfl (by decide +kernel) ⟨by decide, by decide⟩ (Nat.le_of_ble_eq_true rfl) ⟨Nat.le_of_ble_eq_true rfl, Nat.le_of_ble_eq_true rfl⟩ rfl rfl dL_law_4 (fun u2 hu2 => ?_)
    subst hu2
    refine ll_astore_n (lv' := [(1, .ref (u2 90)), (0, .ref b)]) X rfl (by decide) rfl dL_law_7 ?_
    show LL _ _ _ _ _ _ _ _ _ _ _ _ _ _ _ _ (wX8 cA u2) _ _ _
    refine ll_iconst (n := 3) X dL_law_8 ?_
    refine ll_newa (ty := .int) (t := 0) (N := 3) X (by decide +kernel) rfl rfl (fun _ h => h) rfl ⟨by decide, by decide⟩ rfl (Nat.le_of_ble_eq_true rfl) ⟨Nat.le_of_ble_eq_true rfl, Nat.le_of_ble_eq_true rfl⟩ dL_law_9 (fun q1 => ?_)
    refine ll_astore_n (lv' := [(2, .ref q1), (1, .ref (u2 90)), (0, .ref b)]) X rfl (by decide) rfl dL_law_11 ?_
    refine ll_bipush (n := 20) X (by decide) dL_law_12 ?_
    refine ll_newa (ty := .int) (t := 0) (N := 20) X (by decide +kernel) rfl rfl (fun _ h => h) rfl ⟨by decide, by decide⟩ rfl (Nat.le_of_ble_eq_true rfl) ⟨Nat.le_of_ble_eq_true rfl, Nat.le_of_ble_eq_true rfl⟩ dL_law_14 (fun q2 => ?_)
    refine ll_astore_n (lv' := [(3, .ref q2), (2, .ref q1), (1, .ref (u2 90)), (0, .ref b)]) X rfl (by decide) rfl dL_law_16 ?_
    refine ll_bipush (n := 8) X (by decide) dL_law_17 ?_
    refine ll_newa (ty := .int) (t := 0) (N := 8) X (by decide +kernel) rfl rfl (fun _ h => h) rfl ⟨by decide, by decide⟩ rfl (Nat.le_of_ble_eq_true rfl) ⟨Nat.le_of_ble_eq_true rfl, Nat.le_of_ble_eq_true rfl⟩ dL_law_19 (fun q3 => ?_)
    refine ll_astore (lv' := [(4, .ref q3), (3, .ref q2), (2, .ref q1), (1, .ref (u2 90)), (0, .ref b)]) X (by decide) rfl dL_law_21 ?_
    refine ll_bipush (n := 8) X (by decide) dL_law_23 ?_
    refine ll_newa (ty := .int) (t := 0) (N := 8) X (by decide +kernel) rfl rfl (fun _ h => h) rfl ⟨by decide, by decide⟩ rfl (Nat.le_of_ble_eq_true rfl) ⟨Nat.le_of_ble_eq_true rfl, Nat.le_of_ble_eq_true rfl⟩ dL_law_25 (fun q4 => ?_)
    refine ll_astore (lv' := [(5, .ref q4), (4, .ref q3), (3, .ref q2), (2, .ref q1), (1, .ref (u2 90)), (0, .ref b)]) X (by decide) rfl dL_law_27 ?_
    refine ll_iconst (n := 2) X dL_law_29 ?_
    refine ll_newa (ty := .int) (t := 0) (N := 2) X (by decide +kernel) rfl rfl (fun _ h => h) rfl ⟨by decide, by decide⟩ rfl (Nat.le_of_ble_eq_true rfl) ⟨Nat.le_of_ble_eq_true rfl, Nat.le_of_ble_eq_true rfl⟩ dL_law_30 (fun q5 => ?_)
    refine ll_astore (lv' := [(6, .ref q5), (5, .ref q4), (4, .ref q3), (3, .ref q2), (2, .ref q1), (1, .ref (u2 90)), (0, .ref b)]) X (by decide) rfl dL_law_32 ?_
    refine ll_bipush (n := 8) X (by decide) dL_law_34 ?_
    refine ll_newa (ty := .int) (t := 0) (N := 8) X (by decide +kernel) rfl rfl (fun _ h => h) rfl ⟨by decide, by decide⟩ rfl (Nat.le_of_ble_eq_true rfl) ⟨Nat.le_of_ble_eq_true rfl, Nat.le_of_ble_eq_true rfl⟩ dL_law_36 (fun q6 => ?_)
    refine ll_astore (lv' := [(7, .ref q6), (6, .ref q5), (5, .ref q4), (4, .ref q3), (3, .ref q2), (2, .ref q1), (1, .ref (u2 90)), (0, .ref b)]) X (by decide) rfl dL_law_38 ?_
    refine ll_bipush (n := 8) X (by decide) dL_law_40 ?_
    refine ll_newa (ty := .int) (t := 0) (N := 8) X (by decide +kernel) rfl rfl (fun _ h => h) rfl ⟨by decide, by decide⟩ rfl (Nat.le_of_ble_eq_true rfl) ⟨Nat.le_of_ble_eq_true rfl, Nat.le_of_ble_eq_true rfl⟩ dL_law_42 (fun q7 => ?_)
    refine ll_astore (lv' := [(8, .ref q7), (7, .ref q6), (6, .ref q5), (5, .ref q4), (4, .ref q3), (3, .ref q2), (2, .ref q1), (1, .ref (u2 90)), (0, .ref b)]) X (by decide) rfl dL_law_44 ?_
    refine ll_bipush (n := 17) X (by decide) dL_law_46 ?_
    refine ll_newa (ty := .int) (t := 0) (N := 17) X (by decide +kernel) rfl rfl (fun _ h => h) rfl ⟨by decide, by decide⟩ rfl (Nat.le_of_ble_eq_true rfl) ⟨Nat.le_of_ble_eq_true rfl, Nat.le_of_ble_eq_true rfl⟩ dL_law_48 (fun q8 => ?_)
    refine ll_astore (lv' := [(9, .ref q8), (8, .ref q7), (7, .ref q6), (6, .ref q5), (5, .ref q4), (4, .ref q3), (3, .ref q2), (2, .ref q1), (1, .ref (u2 90)), (0, .ref b)]) X (by decide) rfl dL_law_50 ?_
    refine ll_sub (lv' := [(0, .ref b), (1, .ref (u2 90)), (2, .ref q1), (3, .ref q2), (4, .ref q3), (5, .ref q4), (6, .ref q5), (7, .ref q6), (8, .ref q7), (9, .ref q8)]) [9, 8, 7, 6, 5, 4, 3, 2, 1, 0] rfl ?_
    refine ll_wid (cells' := 113) (slots' := 940) ⟨Nat.le_of_ble_eq_true rfl, Nat.le_of_ble_eq_true rfl⟩ ?_
    show LL _ _ _ _ _ _ _ _ _ _ _ _ _ _ _ _ (WA cA u2 q1 q2 q3 q4 q5 q6 q7 q8) _ _ _
    intro H locs ls hP hD hS hl
    have hPA8 := PA8 cA u2 q1 q2 q3 q4 q5 q6 q7 q8 hP
    obtain ⟨had, hAd⟩ := adokA8 cA u2 q1 q2 q3 q4 q5 q6 q7 q8 hD
    have Xc : Cx p s m #[Value.ref b] c cL_law RL 19 wsL_law (dC, dI) (UA u2 q1 q2 q3 q4 q5 q6 q7 q8) cA (AL s) := ⟨X.1, X.2.1, X.2.2.2.1, had, hAd, fun q h => h⟩
    exact law_init Xc M0 (fun N hN9 => law_loop Xc hX hbl (by omega) hr hlocks _ 0 N ⟨Int.le_refl _, by omega⟩ (RLL_0 hN9) (Nat.lt_succ_self _)) H locs ls hPA8 hS hl
  rw [lg_entry_eq]
  exact key s.heap [] _ (fun k q h => by simp at h) ⟨fun i j p q h => by simp at h, fun k q h => by simp at h⟩ va_S.rf (lv_entry [.ref b] (Nat.le_of_ble_eq_true rfl))
