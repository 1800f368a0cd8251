set_option maxRecDepth 100000 in
set_option maxHeartbeats 4000000 in
theorem c_X9_receiver (l : Launch) (D : va_G) {ad : Nat → Nat} (cA : Nat → ClassId) (had : adok ad) (M : Mem) (r w : Int) (hr : -2147483648 ≤ r ∧ r ≤ 2147483647) (hw : -2147483648 ≤ w ∧ w ≤ 2147483647) (hw : RW M) : CtI l yX9_receiver wsX9_receiver 3 67 D ad cA [.ref (ad 105), .int (zI r), .int (zI w)] M (fun z M1 => qRec r w (aR M) z ∧ KQ M M1) := by
  refine CtI.of (cc := cX9_receiver) (maxL := 3) (ret := (some .int)) had (by decide) rfl (Nat.le_of_ble_eq_true rfl) ?_
  intro p e s m args below meth c X hm
  show VV p l e { frames := 3, cells := 0, slots := 0, locals := 67 } s m args below meth c 3 D ad cA (Afr ad s.heap.size) 0 0 (QI below args s D ad cA (fun z M1 => qRec r w (aR M) z ∧ KQ M M1)) M 0 [(0, .ref (ad 105)), (1, .int (zI r)), (2, .int (zI w))] []
  have hw0 := hw
  obtain ⟨hwA, hHi, hwh⟩ := hw
  have hW : rWR M := hwA.2.1
  have hn5 : 0 ≤ M 106 1 ∧ M 106 1 ≤ 5 := by
    have q1 := hW.2.1
    have q2 := hW.1
    omega
  have hsm : 1 ≤ M 106 2 ∧ M 106 2 ≤ 6 := WFs_pos hwA.2.2
  have hwb : ∀ k : Nat, (k : Int) < M 106 2 → (1 ≤ M 106 (23 + k) ∧ M 106 (23 + k) ≤ 999) ∧ (0 ≤ M 106 (29 + k) ∧ M 106 (29 + k) ≤ 100) := fun k hk => WFs_b hwA.2.2 hk
  have hp9 : 1 ≤ M 106 0 ∧ M 106 0 ≤ 99 := hwA.1
  refine vv_aload_n X 0 rfl rfl dX9_receiver_0 ?_
  refine vv_iload_n X 1 rfl rfl dX9_receiver_1 ?_
  refine vv_callVI (As := [.int (zI r)]) (st := []) (Nf := 20) X 1 (c_X9_isReceiver l D cA had M r (by omega) (by omega)) gX9_receiver_X9_isReceiver rfl (by decide +kernel) ⟨by decide, by decide⟩ (Nat.le_of_ble_eq_true rfl) ⟨by decide, by decide⟩ rfl (by decide) sh_105 rfl rfl dX9_receiver_2 (fun z2 Mc2 q_2 => ?_)
  obtain ⟨e_z2, g_z2⟩ := q_2
  have g_z2 := g_z2.symm
  subst g_z2
  refine vv_if_ne (tgt := 10) X (by rw [e_z2]; split <;> omega) dX9_receiver_5 (by decide) (fun c_5 => ?_) (fun c_5 => ?_)
  · skip
    have hin : 0 ≤ r ∧ r < M 106 1 := Classical.byContradiction fun q => by rw [if_neg q] at e_z2; omega
    refine vv_iload_n X 2 rfl rfl dX9_receiver_10 ?_
    by_cases c_11 : w < 0 ∨ 4 < w
    · skip
      refine vv_tabOut (tgt := 67) X (by omega) dX9_receiver_11 c_11 (by decide) ?_
      refine vv_bipush (n := (-2)) X (by decide) dX9_receiver_67 ?_
      exact vv_iret X hm (⟨⟨fun q => absurd hin q, fun _ => ⟨fun q => by first | (exfalso; omega) | exact e_z47.trans (congrArg (M 106) (show (3 + 4 * r + w).toNat = 3 + 4 * r.toNat by omega)), fun q => by first | (exfalso; omega) | exact e_z47.trans (congrArg (M 106) (show (3 + 4 * r + w).toNat = 4 + 4 * r.toNat by omega)), fun q => by first | (exfalso; omega) | exact e_z47.trans (congrArg (M 106) (show (3 + 4 * r + w).toNat = 5 + 4 * r.toNat by omega)), fun q => by first | (exfalso; omega) | exact (by rw [e_z54]; exact congrArg (fun q => q + 100) (congrArg (M 106) (show (3 + 4 * r + 3).toNat = 6 + 4 * r.toNat by omega))), fun q => by first | (exfalso; omega) | exact e_z63, fun q => by first | (exfalso; omega) | rfl⟩⟩, KQ_rf M⟩) dX9_receiver_69
    by_cases c_11_0 : w = 0
    · skip
      refine vv_tabIn (tgt := 44) (off := 33) X (by omega) dX9_receiver_11 (by omega) (by omega) (by rw [c_11_0]; rfl) (by decide) ?_
      refine vv_aload_n X 0 rfl rfl dX9_receiver_44 ?_
      refine vv_iload_n X 1 rfl rfl dX9_receiver_45 ?_
      refine vv_iload_n X 2 rfl rfl dX9_receiver_46 ?_
      refine vv_callVI (As := [.int (zI r), .int (zI w)]) (st := []) (Nf := 20) X 2 (c_X9_receiverPart l D cA had M r w (by omega) (by omega)) gX9_receiver_X9_receiverPart rfl (by decide +kernel) ⟨by decide, by decide⟩ (Nat.le_of_ble_eq_true rfl) ⟨by decide, by decide⟩ rfl (by decide) sh_105 rfl rfl dX9_receiver_47 (fun z47 Mc47 q_47 => ?_)
      obtain ⟨e_z47, g_z47⟩ := q_47
      have g_z47 := g_z47.symm
      subst g_z47
      exact vv_iret X hm (⟨⟨fun q => absurd hin q, fun _ => ⟨fun q => by first | (exfalso; omega) | exact e_z47.trans (congrArg (M 106) (show (3 + 4 * r + w).toNat = 3 + 4 * r.toNat by omega)), fun q => by first | (exfalso; omega) | exact e_z47.trans (congrArg (M 106) (show (3 + 4 * r + w).toNat = 4 + 4 * r.toNat by omega)), fun q => by first | (exfalso; omega) | exact e_z47.trans (congrArg (M 106) (show (3 + 4 * r + w).toNat = 5 + 4 * r.toNat by omega)), fun q => by first | (exfalso; omega) | exact (by rw [e_z54]; exact congrArg (fun q => q + 100) (congrArg (M 106) (show (3 + 4 * r + 3).toNat = 6 + 4 * r.toNat by omega))), fun q => by first | (exfalso; omega) | exact e_z63, fun q => by first | (exfalso; omega) | rfl⟩⟩, KQ_rf M⟩) dX9_receiver_50
    by_cases c_11_1 : w = 1
    · skip
      refine vv_tabIn (tgt := 44) (off := 33) X (by omega) dX9_receiver_11 (by omega) (by omega) (by rw [c_11_1]; rfl) (by decide) ?_
      refine vv_aload_n X 0 rfl rfl dX9_receiver_44 ?_
      refine vv_iload_n X 1 rfl rfl dX9_receiver_45 ?_
      refine vv_iload_n X 2 rfl rfl dX9_receiver_46 ?_
      refine vv_callVI (As := [.int (zI r), .int (zI w)]) (st := []) (Nf := 20) X 2 (c_X9_receiverPart l D cA had M r w (by omega) (by omega)) gX9_receiver_X9_receiverPart rfl (by decide +kernel) ⟨by decide, by decide⟩ (Nat.le_of_ble_eq_true rfl) ⟨by decide, by decide⟩ rfl (by decide) sh_105 rfl rfl dX9_receiver_47 (fun z47 Mc47 q_47 => ?_)
      obtain ⟨e_z47, g_z47⟩ := q_47
      have g_z47 := g_z47.symm
      subst g_z47
      exact vv_iret X hm (⟨⟨fun q => absurd hin q, fun _ => ⟨fun q => by first | (exfalso; omega) | exact e_z47.trans (congrArg (M 106) (show (3 + 4 * r + w).toNat = 3 + 4 * r.toNat by omega)), fun q => by first | (exfalso; omega) | exact e_z47.trans (congrArg (M 106) (show (3 + 4 * r + w).toNat = 4 + 4 * r.toNat by omega)), fun q => by first | (exfalso; omega) | exact e_z47.trans (congrArg (M 106) (show (3 + 4 * r + w).toNat = 5 + 4 * r.toNat by omega)), fun q => by first | (exfalso; omega) | exact (by rw [e_z54]; exact congrArg (fun q => q + 100) (congrArg (M 106) (show (3 + 4 * r + 3).toNat = 6 + 4 * r.toNat by omega))), fun q => by first | (exfalso; omega) | exact e_z63, fun q => by first | (exfalso; omega) | rfl⟩⟩, KQ_rf M⟩) dX9_receiver_50
    by_cases c_11_2 : w = 2
    · skip
      refine vv_tabIn (tgt := 44) (off := 33) X (by omega) dX9_receiver_11 (by omega) (by omega) (by rw [c_11_2]; rfl) (by decide) ?_
      refine vv_aload_n X 0 rfl rfl dX9_receiver_44 ?_
      refine vv_iload_n X 1 rfl rfl dX9_receiver_45 ?_
      refine vv_iload_n X 2 rfl rfl dX9_receiver_46 ?_
      refine vv_callVI (As := [.int (zI r), .int (zI w)]) (st := []) (Nf := 20) X 2 (c_X9_receiverPart l D cA had M r w (by omega) (by omega)) gX9_receiver_X9_receiverPart rfl (by decide +kernel) ⟨by decide, by decide⟩ (Nat.le_of_ble_eq_true rfl) ⟨by decide, by decide⟩ rfl (by decide) sh_105 rfl rfl dX9_receiver_47 (fun z47 Mc47 q_47 => ?_)
      obtain ⟨e_z47, g_z47⟩ := q_47
      have g_z47 := g_z47.symm
      subst g_z47
      exact vv_iret X hm (⟨⟨fun q => absurd hin q, fun _ => ⟨fun q => by first | (exfalso; omega) | exact e_z47.trans (congrArg (M 106) (show (3 + 4 * r + w).toNat = 3 + 4 * r.toNat by omega)), fun q => by first | (exfalso; omega) | exact e_z47.trans (congrArg (M 106) (show (3 + 4 * r + w).toNat = 4 + 4 * r.toNat by omega)), fun q => by first | (exfalso; omega) | exact e_z47.trans (congrArg (M 106) (show (3 + 4 * r + w).toNat = 5 + 4 * r.toNat by omega)), fun q => by first | (exfalso; omega) | exact (by rw [e_z54]; exact congrArg (fun q => q + 100) (congrArg (M 106) (show (3 + 4 * r + 3).toNat = 6 + 4 * r.toNat by omega))), fun q => by first | (exfalso; omega) | exact e_z63, fun q => by first | (exfalso; omega) | rfl⟩⟩, KQ_rf M⟩) dX9_receiver_50
    by_cases c_11_3 : w = 3
    · skip
      refine vv_tabIn (tgt := 51) (off := 40) X (by omega) dX9_receiver_11 (by omega) (by omega) (by rw [c_11_3]; rfl) (by decide) ?_
      refine vv_aload_n X 0 rfl rfl dX9_receiver_51 ?_
      refine vv_iload_n X 1 rfl rfl dX9_receiver_52 ?_
      refine vv_iconst (n := 3) X dX9_receiver_53 ?_
      refine vv_callVI (As := [.int (zI r), .int (zI 3)]) (st := []) (Nf := 20) X 2 (c_X9_receiverPart l D cA had M r 3 (by omega) (by omega)) gX9_receiver_X9_receiverPart rfl (by decide +kernel) ⟨by decide, by decide⟩ (Nat.le_of_ble_eq_true rfl) ⟨by decide, by decide⟩ rfl (by decide) sh_105 rfl rfl dX9_receiver_54 (fun z54 Mc54 q_54 => ?_)
      obtain ⟨e_z54, g_z54⟩ := q_54
      have g_z54 := g_z54.symm
      subst g_z54
      refine vv_bipush (n := 100) X (by decide) dX9_receiver_57 ?_
      refine vv_iadd X dX9_receiver_59 ?_
      exact vv_iret X hm (⟨⟨fun q => absurd hin q, fun _ => ⟨fun q => by first | (exfalso; omega) | exact e_z47.trans (congrArg (M 106) (show (3 + 4 * r + w).toNat = 3 + 4 * r.toNat by omega)), fun q => by first | (exfalso; omega) | exact e_z47.trans (congrArg (M 106) (show (3 + 4 * r + w).toNat = 4 + 4 * r.toNat by omega)), fun q => by first | (exfalso; omega) | exact e_z47.trans (congrArg (M 106) (show (3 + 4 * r + w).toNat = 5 + 4 * r.toNat by omega)), fun q => by first | (exfalso; omega) | exact (by rw [e_z54]; exact congrArg (fun q => q + 100) (congrArg (M 106) (show (3 + 4 * r + 3).toNat = 6 + 4 * r.toNat by omega))), fun q => by first | (exfalso; omega) | exact e_z63, fun q => by first | (exfalso; omega) | rfl⟩⟩, KQ_rf M⟩) dX9_receiver_60
    have c_11_4 : w = 4 := by omega
    · skip
      refine vv_tabIn (tgt := 61) (off := 50) X (by omega) dX9_receiver_11 (by omega) (by omega) (by rw [c_11_4]; rfl) (by decide) ?_
      refine vv_aload_n X 0 rfl rfl dX9_receiver_61 ?_
      refine vv_iload_n X 1 rfl rfl dX9_receiver_62 ?_
      refine vv_callVI (As := [.int (zI r)]) (st := []) (Nf := 20) X 1 (c_X9_leastActing l D cA had M r (by omega) (by assumption)) gX9_receiver_X9_leastActing rfl (by decide +kernel) ⟨by decide, by decide⟩ (Nat.le_of_ble_eq_true rfl) ⟨by decide, by decide⟩ rfl (by decide) sh_105 rfl rfl dX9_receiver_63 (fun z63 Mc63 q_63 => ?_)
      obtain ⟨e_z63, g_z63⟩ := q_63
      have g_z63 := g_z63.symm
      subst g_z63
      exact vv_iret X hm (⟨⟨fun q => absurd hin q, fun _ => ⟨fun q => by first | (exfalso; omega) | exact e_z47.trans (congrArg (M 106) (show (3 + 4 * r + w).toNat = 3 + 4 * r.toNat by omega)), fun q => by first | (exfalso; omega) | exact e_z47.trans (congrArg (M 106) (show (3 + 4 * r + w).toNat = 4 + 4 * r.toNat by omega)), fun q => by first | (exfalso; omega) | exact e_z47.trans (congrArg (M 106) (show (3 + 4 * r + w).toNat = 5 + 4 * r.toNat by omega)), fun q => by first | (exfalso; omega) | exact (by rw [e_z54]; exact congrArg (fun q => q + 100) (congrArg (M 106) (show (3 + 4 * r + 3).toNat = 6 + 4 * r.toNat by omega))), fun q => by first | (exfalso; omega) | exact e_z63, fun q => by first | (exfalso; omega) | rfl⟩⟩, KQ_rf M⟩) dX9_receiver_66
  · skip
    have hin : ¬ (0 ≤ r ∧ r < M 106 1) := fun q => by rw [if_pos q] at e_z2; omega
    refine vv_iconst (n := (-1)) X dX9_receiver_8 ?_
    exact vv_iret X hm (⟨⟨fun _ => rfl, fun q => absurd q hin⟩, KQ_rf M⟩) dX9_receiver_9
theorem u_X9_part_9 : ∀ w ∈ u_ws RX9 TX9 20, w ∈ wsX9_part := by decide +kernel
theorem k_X9_part_7 : Cond.fieldLink yX9_part.cls 7 (TX9 0).1 (TX9 0).2.1 (TX9 0).2.2.1 ∈ wsX9_part := by decide +kernel
set_option maxRecDepth 100000 in
set_option maxHeartbeats 4000000 in
theorem c_X9_part (l : Launch) (D : va_G) {ad : Nat → Nat} (cA : Nat → ClassId) (had : adok ad) (M : Mem) (r w : Int) (hr : -2147483648 ≤ r ∧ r ≤ 2147483647) (hw : -2147483648 ≤ w ∧ w ≤ 2147483647) (hw : RW M) : CtI l yX9_part wsX9_part 4 92 D ad cA [.ref (ad 105), .int (zI r), .int (zI w)] M (fun z M1 => qPart r w (aR M) z ∧ KQ M M1) := by
  refine CtI.of (cc := cX9_part) (maxL := 4) (ret := (some .int)) had (by decide) rfl (Nat.le_of_ble_eq_true rfl) ?_
  intro p e s m args below meth c X hm
  show VV p l e { frames := 4, cells := 0, slots := 0, locals := 92 } s m args below meth c 4 D ad cA (Afr ad s.heap.size) 0 0 (QI below args s D ad cA (fun z M1 => qPart r w (aR M) z ∧ KQ M M1)) M 0 [(0, .ref (ad 105)), (1, .int (zI r)), (2, .int (zI w))] []
  have hw0 := hw
  obtain ⟨hwA, hHi, hwh⟩ := hw
  have hW : rWR M := hwA.2.1
  have hn5 : 0 ≤ M 106 1 ∧ M 106 1 ≤ 5 := by
    have q1 := hW.2.1
    have q2 := hW.1
    omega
  have hsm : 1 ≤ M 106 2 ∧ M 106 2 ≤ 6 := WFs_pos hwA.2.2
  have hwb : ∀ k : Nat, (k : Int) < M 106 2 → (1 ≤ M 106 (23 + k) ∧ M 106 (23 + k) ≤ 999) ∧ (0 ≤ M 106 (29 + k) ∧ M 106 (29 + k) ≤ 100) := fun k hk => WFs_b hwA.2.2 hk
  have hp9 : 1 ≤ M 106 0 ∧ M 106 0 ≤ 99 := hwA.1
  refine vv_aload_n X 0 rfl rfl dX9_part_0 ?_
  refine vv_iload_n X 1 rfl rfl dX9_part_1 ?_
  refine vv_callVI (As := [.int (zI r)]) (st := []) (Nf := 20) X 1 (c_X9_isPart l D cA had M r (by omega) (by omega)) gX9_part_X9_isPart rfl (by decide +kernel) ⟨by decide, by decide⟩ (Nat.le_of_ble_eq_true rfl) ⟨by decide, by decide⟩ rfl (by decide) sh_105 rfl rfl dX9_part_2 (fun z2 Mc2 q_2 => ?_)
  obtain ⟨e_z2, g_z2⟩ := q_2
  have g_z2 := g_z2.symm
  subst g_z2
  refine vv_if_ne (tgt := 10) X (by rw [e_z2]; split <;> omega) dX9_part_5 (by decide) (fun c_5 => ?_) (fun c_5 => ?_)
  · skip
    have hin : 0 ≤ r ∧ r < M 106 2 := Classical.byContradiction fun q => by rw [if_neg q] at e_z2; omega
    have hwr := hwb r.toNat (by omega)
    refine vv_aload_n X 0 rfl rfl dX9_part_10 ?_
    refine vv_getr (Nf := 20) (ref := (TX9 0).1) X (by decide) sh_105 rfl 0 (by decide) u_X9_part_9 k_X9_part_7 rfl rfl dX9_part_11 ?_
    refine vv_bipush (n := 29) X (by decide) dX9_part_14 ?_
    refine vv_iload_n X 1 rfl rfl dX9_part_16 ?_
    refine vv_iadd X dX9_part_17 ?_
    refine vv_iald (z := (M 106 (29 + r.toNat))) X (by decide) sh_106 (by decide) (by omega) (by first | (rw [show (29 + r).toNat = 29 + r.toNat by omega]; done) | (rw [show (29 + r).toNat = 29 + r.toNat by omega]; exact (rfl))) dX9_part_18 ?_
    refine vv_istore_n (lv' := [(3, .int (zI (M 106 (29 + r.toNat)))), (0, .ref (ad 105)), (1, .int (zI r)), (2, .int (zI w))]) X rfl (by decide) rfl dX9_part_19 ?_
    refine vv_iload_n X 3 rfl rfl dX9_part_20 ?_
    by_cases c_21 : w < 0 ∨ 3 < w
    · skip
      refine vv_tabOut (tgt := 80) X (by omega) dX9_part_21 c_21 (by decide) ?_
      refine vv_bipush (n := (-2)) X (by decide) dX9_part_80 ?_
      exact vv_iret X hm (⟨⟨fun q => absurd hin q, fun _ => ⟨fun q => by first | (exfalso; omega) | rfl, fun q => by first | (exfalso; omega) | rfl, fun q => by first | (exfalso; omega) | exact e_z66, fun q => by first | (exfalso; omega) | (rw [e_z72]; rfl), fun q => by first | (exfalso; omega) | rfl⟩⟩, KQ_rf M⟩) dX9_part_82
    by_cases c_21_0 : w = 0
    · skip
      refine vv_tabIn (tgt := 52) (off := 31) X (by omega) dX9_part_21 (by omega) (by omega) (by rw [c_21_0]; rfl) (by decide) ?_
      refine vv_aload_n X 1 rfl rfl dX9_part_52 ?_
      refine vv_getr (Nf := 20) (ref := (TX9 0).1) X (by decide) sh_105 rfl 0 (by decide) u_X9_part_9 k_X9_part_7 rfl rfl dX9_part_53 ?_
      refine vv_bipush (n := 23) X (by decide) dX9_part_56 ?_
      refine vv_iload_n X 2 rfl rfl dX9_part_58 ?_
      refine vv_iadd X dX9_part_59 ?_
      refine vv_iald (z := (M 106 (23 + r.toNat))) X (by decide) sh_106 (by decide) (by omega) (by first | (rw [show (23 + r).toNat = 23 + r.toNat by omega]; done) | (rw [show (23 + r).toNat = 23 + r.toNat by omega]; exact (rfl))) dX9_part_60 ?_
      exact vv_iret X hm (⟨⟨fun q => absurd hin q, fun _ => ⟨fun q => by first | (exfalso; omega) | rfl, fun q => by first | (exfalso; omega) | rfl, fun q => by first | (exfalso; omega) | exact e_z66, fun q => by first | (exfalso; omega) | (rw [e_z72]; rfl), fun q => by first | (exfalso; omega) | rfl⟩⟩, KQ_rf M⟩) dX9_part_61
    by_cases c_21_1 : w = 1
    · skip
      refine vv_tabIn (tgt := 62) (off := 41) X (by omega) dX9_part_21 (by omega) (by omega) (by rw [c_21_1]; rfl) (by decide) ?_
      refine vv_iload_n X 0 rfl rfl dX9_part_62 ?_
      exact vv_iret X hm (⟨⟨fun q => absurd hin q, fun _ => ⟨fun q => by first | (exfalso; omega) | rfl, fun q => by first | (exfalso; omega) | rfl, fun q => by first | (exfalso; omega) | exact e_z66, fun q => by first | (exfalso; omega) | (rw [e_z72]; rfl), fun q => by first | (exfalso; omega) | rfl⟩⟩, KQ_rf M⟩) dX9_part_63
    by_cases c_21_2 : w = 2
    · skip
      refine vv_tabIn (tgt := 64) (off := 43) X (by omega) dX9_part_21 (by omega) (by omega) (by rw [c_21_2]; rfl) (by decide) ?_
      refine vv_aload_n X 1 rfl rfl dX9_part_64 ?_
      refine vv_iload_n X 0 rfl rfl dX9_part_65 ?_
      refine vv_callVI (As := [.int (zI (M 106 (29 + r.toNat)))]) (st := []) (Nf := 20) X 1 (c_X9_actingAt l D cA had M (M 106 (29 + r.toNat)) (by omega) (by assumption)) gX9_part_X9_actingAt rfl (by decide +kernel) ⟨by decide, by decide⟩ (Nat.le_of_ble_eq_true rfl) ⟨by decide, by decide⟩ rfl (by decide) sh_105 rfl rfl dX9_part_66 (fun z66 Mc66 q_66 => ?_)
      obtain ⟨e_z66, g_z66⟩ := q_66
      have g_z66 := g_z66.symm
      subst g_z66
      exact vv_iret X hm (⟨⟨fun q => absurd hin q, fun _ => ⟨fun q => by first | (exfalso; omega) | rfl, fun q => by first | (exfalso; omega) | rfl, fun q => by first | (exfalso; omega) | exact e_z66, fun q => by first | (exfalso; omega) | (rw [e_z72]; rfl), fun q => by first | (exfalso; omega) | rfl⟩⟩, KQ_rf M⟩) dX9_part_69
    have c_21_3 : w = 3 := by omega
    · skip
      refine vv_tabIn (tgt := 70) (off := 49) X (by omega) dX9_part_21 (by omega) (by omega) (by rw [c_21_3]; rfl) (by decide) ?_
      refine vv_aload_n X 1 rfl rfl dX9_part_70 ?_
      refine vv_iload_n X 0 rfl rfl dX9_part_71 ?_
      refine vv_callVI (As := [.int (zI (M 106 (29 + r.toNat)))]) (st := []) (Nf := 20) X 1 (c_X9_valueAt l D cA had M (M 106 (29 + r.toNat)) (by omega) (by assumption)) gX9_part_X9_valueAt rfl (by decide +kernel) ⟨by decide, by decide⟩ (Nat.le_of_ble_eq_true rfl) ⟨by decide, by decide⟩ rfl (by decide) sh_105 rfl rfl dX9_part_72 (fun z72 Mc72 q_72 => ?_)
      obtain ⟨e_z72, g_z72⟩ := q_72
      have g_z72 := g_z72.symm
      subst g_z72
      refine vv_sipush (n := 1000) X (by decide) dX9_part_75 ?_
      refine vv_iadd X dX9_part_78 ?_
      exact vv_iret X hm (⟨⟨fun q => absurd hin q, fun _ => ⟨fun q => by first | (exfalso; omega) | rfl, fun q => by first | (exfalso; omega) | rfl, fun q => by first | (exfalso; omega) | exact e_z66, fun q => by first | (exfalso; omega) | (rw [e_z72]; rfl), fun q => by first | (exfalso; omega) | rfl⟩⟩, KQ_rf M⟩) dX9_part_79
  · skip
    have hin : ¬ (0 ≤ r ∧ r < M 106 2) := fun q => by rw [if_pos q] at e_z2; omega
    refine vv_iconst (n := (-1)) X dX9_part_8 ?_
    exact vv_iret X hm (⟨⟨fun _ => rfl, fun q => absurd q hin⟩, KQ_rf M⟩) dX9_part_9
set_option maxRecDepth 100000 in
set_option maxHeartbeats 4000000 in
theorem c_X9_value (l : Launch) (D : va_G) {ad : Nat → Nat} (cA : Nat → ClassId) (had : adok ad) (M : Mem) (x : Int) (hx : -2147483648 ≤ x ∧ x ≤ 2147483647) (hw : RW M) : CtI l yX9_value wsX9_value 4 92 D ad cA [.ref (ad 105), .int (zI x)] M (fun z M1 => qVal x (aR M) z ∧ KQ M M1) := by
  refine CtI.of (cc := cX9_value) (maxL := 2) (ret := (some .int)) had (by decide) rfl (Nat.le_of_ble_eq_true rfl) ?_
  intro p e s m args below meth c X hm
  show VV p l e { frames := 4, cells := 0, slots := 0, locals := 92 } s m args below meth c 2 D ad cA (Afr ad s.heap.size) 0 0 (QI below args s D ad cA (fun z M1 => qVal x (aR M) z ∧ KQ M M1)) M 0 [(0, .ref (ad 105)), (1, .int (zI x))] []
  have hw0 := hw
  obtain ⟨hwA, hHi, hwh⟩ := hw
  have hW : rWR M := hwA.2.1
  have hn5 : 0 ≤ M 106 1 ∧ M 106 1 ≤ 5 := by
    have q1 := hW.2.1
    have q2 := hW.1
    omega
  have hsm : 1 ≤ M 106 2 ∧ M 106 2 ≤ 6 := WFs_pos hwA.2.2
  have hwb : ∀ k : Nat, (k : Int) < M 106 2 → (1 ≤ M 106 (23 + k) ∧ M 106 (23 + k) ≤ 999) ∧ (0 ≤ M 106 (29 + k) ∧ M 106 (29 + k) ≤ 100) := fun k hk => WFs_b hwA.2.2 hk
  have hp9 : 1 ≤ M 106 0 ∧ M 106 0 ≤ 99 := hwA.1
  refine vv_iload_n X 1 rfl rfl dX9_value_0 ?_
  refine vv_callSI (As := [.int (zI x)]) (st := []) X 1 (c_X9_isShare l D cA had M x (by omega)) gX9_value_X9_isShare rfl (by decide +kernel) ⟨by decide, by decide⟩ (Nat.le_of_ble_eq_true rfl) ⟨by decide, by decide⟩ rfl rfl dX9_value_1 (fun z1 Mc1 q_1 => ?_)
  obtain ⟨e_z1, g_z1⟩ := q_1
  have g_z1 := g_z1.symm
  subst g_z1
  refine vv_if_eq (tgt := 19) X (by rw [e_z1]; split <;> omega) dX9_value_4 (by decide) (fun c_4 => ?_) (fun c_4 => ?_)
  · skip
    have hin : ¬ (0 ≤ x ∧ x ≤ 100) := fun q => by rw [if_pos q] at e_z1; omega
    refine vv_bipush (n := (-2)) X (by decide) dX9_value_19 ?_
    exact vv_iret X hm (⟨⟨fun _ => rfl, fun q => absurd q hin⟩, KQ_rf M⟩) dX9_value_21
  · skip
    have hin : 0 ≤ x ∧ x ≤ 100 := Classical.byContradiction fun q => by rw [if_neg q] at e_z1; omega
    refine vv_aload_n X 0 rfl rfl dX9_value_7 ?_
    refine vv_iload_n X 1 rfl rfl dX9_value_8 ?_
    refine vv_callVI (As := [.int (zI x)]) (st := []) (Nf := 20) X 1 (c_X9_valueAt l D cA had M x (by omega) (by assumption)) gX9_value_X9_valueAt rfl (by decide +kernel) ⟨by decide, by decide⟩ (Nat.le_of_ble_eq_true rfl) ⟨by decide, by decide⟩ rfl (by decide) sh_105 rfl rfl dX9_value_9 (fun z9 Mc9 q_9 => ?_)
    obtain ⟨e_z9, g_z9⟩ := q_9
    have g_z9 := g_z9.symm
    subst g_z9
    refine vv_sipush (n := 1000) X (by decide) dX9_value_12 ?_
    refine vv_iadd X dX9_value_15 ?_
    refine vv_goto (tgt := 21) X (by decide) dX9_value_16 ?_
    exact vv_iret X hm (⟨⟨fun q => absurd hin q, fun _ => by rw [e_z9]; rfl⟩, KQ_rf M⟩) dX9_value_21
theorem u_X9_mean_9 : ∀ w ∈ u_ws RX9 TX9 20, w ∈ wsX9_mean := by decide +kernel
theorem k_X9_mean_47 : Cond.fieldLink yX9_mean.cls 47 (TX9 10).1 (TX9 10).2.1 (TX9 10).2.2.1 ∈ wsX9_mean := by decide +kernel
theorem k_X9_mean_50 : Cond.fieldLink yX9_mean.cls 50 (TX9 11).1 (TX9 11).2.1 (TX9 11).2.2.1 ∈ wsX9_mean := by decide +kernel
set_option maxRecDepth 100000 in
set_option maxHeartbeats 4000000 in
theorem c_X9_mean (l : Launch) (D : va_G) {ad : Nat → Nat} (cA : Nat → ClassId) (had : adok ad) (M : Mem) (w : Int) (hw : -2147483648 ≤ w ∧ w ≤ 2147483647) (hw : RW M) : CtI l yX9_mean wsX9_mean 5 114 D ad cA [.ref (ad 105), .int (zI w)] M (fun z M1 => qMean w (aR M) z ∧ KQ M M1) := by
  refine CtI.of (cc := cX9_mean) (maxL := 2) (ret := (some .int)) had (by decide) rfl (Nat.le_of_ble_eq_true rfl) ?_
  intro p e s m args below meth c X hm
  show VV p l e { frames := 5, cells := 0, slots := 0, locals := 114 } s m args below meth c 2 D ad cA (Afr ad s.heap.size) 0 0 (QI below args s D ad cA (fun z M1 => qMean w (aR M) z ∧ KQ M M1)) M 0 [(0, .ref (ad 105)), (1, .int (zI w))] []
  have hw0 := hw
  obtain ⟨hwA, hHi, hwh⟩ := hw
  have hW : rWR M := hwA.2.1
  have hn5 : 0 ≤ M 106 1 ∧ M 106 1 ≤ 5 := by
    have q1 := hW.2.1
    have q2 := hW.1
    omega
  have hsm : 1 ≤ M 106 2 ∧ M 106 2 ≤ 6 := WFs_pos hwA.2.2
  have hwb : ∀ k : Nat, (k : Int) < M 106 2 → (1 ≤ M 106 (23 + k) ∧ M 106 (23 + k) ≤ 999) ∧ (0 ≤ M 106 (29 + k) ∧ M 106 (29 + k) ≤ 100) := fun k hk => WFs_b hwA.2.2 hk
  have hp9 : 1 ≤ M 106 0 ∧ M 106 0 ≤ 99 := hwA.1
  refine vv_aload_n X 0 rfl rfl dX9_mean_0 ?_
  refine vv_callVV (As := []) (st := []) (Nf := 20) X 0 (c_X9_takeMean l D cA had M (hsm) (hwb) (hW)) gX9_mean_X9_takeMean rfl (by decide +kernel) ⟨by decide, by decide⟩ (Nat.le_of_ble_eq_true rfl) ⟨by decide, by decide⟩ rfl (by decide) sh_105 rfl rfl dX9_mean_1 (fun Mm qm => ?_)
  have em0 : Mm 105 10 = frA (mnS (aR M)) (mnT (aR M)) := by rw [qm]; rfl
  have em1 : Mm 105 11 = frB (mnS (aR M)) (mnT (aR M)) := by rw [qm]; rfl
  have hK : KQ M Mm := by rw [qm]; exact KQ_up (by decide) (by decide) (KQ_up (by decide) (by decide) (KQ_rf M))
  have bq := mn_b hwA
  have bf := fr_b (a := mnS (aR M)) (b := mnT (aR M)) (A := 1073741824) bq.1 bq.2.1
  refine vv_iload_n X 1 rfl rfl dX9_mean_4 ?_
  refine vv_if_ne (tgt := 18) X (by omega) dX9_mean_5 (by decide) (fun c_5 => ?_) (fun c_5 => ?_)
  · skip
    refine vv_iload_n X 1 rfl rfl dX9_mean_18 ?_
    refine vv_iconst (n := 1) X dX9_mean_19 ?_
    refine vv_icmp_ne (tgt := 30) X (by omega) (by omega) dX9_mean_20 (by decide) (fun c_20 => ?_) (fun c_20 => ?_)
    · skip
      refine vv_bipush (n := (-2)) X (by decide) dX9_mean_30 ?_
      exact vv_iret X hm (⟨⟨fun q => by first | rfl | (exfalso; omega), fun q => by first | (exfalso; omega) | rw [em0], fun q => by first | (exfalso; omega) | exact em1⟩, hK⟩) dX9_mean_32
    · skip
      refine vv_aload_n X 0 rfl rfl dX9_mean_23 ?_
      refine vv_geti (Nf := 20) (ref := (TX9 11).1) (z := (Mm 105 11)) X (by decide) sh_105 rfl 11 (by decide) u_X9_mean_9 k_X9_mean_50 rfl rfl (rfl) dX9_mean_24 ?_
      refine vv_goto (tgt := 32) X (by decide) dX9_mean_27 ?_
      exact vv_iret X hm (⟨⟨fun q => by first | rfl | (exfalso; omega), fun q => by first | (exfalso; omega) | rw [em0], fun q => by first | (exfalso; omega) | exact em1⟩, hK⟩) dX9_mean_32
  · skip
    refine vv_aload_n X 0 rfl rfl dX9_mean_8 ?_
    refine vv_geti (Nf := 20) (ref := (TX9 10).1) (z := (Mm 105 10)) X (by decide) sh_105 rfl 10 (by decide) u_X9_mean_9 k_X9_mean_47 rfl rfl (rfl) dX9_mean_9 ?_
    refine vv_ldc (n := 10000000) (v := 10000000) X (by decide +kernel) (by decide) dX9_mean_12 ?_
    refine vv_iadd X dX9_mean_14 ?_
    refine vv_goto (tgt := 32) X (by decide) dX9_mean_15 ?_
    exact vv_iret X hm (⟨⟨fun q => by first | rfl | (exfalso; omega), fun q => by first | (exfalso; omega) | rw [em0], fun q => by first | (exfalso; omega) | exact em1⟩, hK⟩) dX9_mean_32
theorem u_X9_worth_9 : ∀ w ∈ u_ws RX9 TX9 20, w ∈ wsX9_worth := by decide +kernel
theorem k_X9_worth_7 : Cond.fieldLink yX9_worth.cls 7 (TX9 0).1 (TX9 0).2.1 (TX9 0).2.2.1 ∈ wsX9_worth := by decide +kernel
theorem k_X9_worth_47 : Cond.fieldLink yX9_worth.cls 47 (TX9 10).1 (TX9 10).2.1 (TX9 10).2.2.1 ∈ wsX9_worth := by decide +kernel
theorem k_X9_worth_50 : Cond.fieldLink yX9_worth.cls 50 (TX9 11).1 (TX9 11).2.1 (TX9 11).2.2.1 ∈ wsX9_worth := by decide +kernel
set_option maxRecDepth 100000 in
set_option maxHeartbeats 4000000 in
theorem c_X9_worth (l : Launch) (D : va_G) {ad : Nat → Nat} (cA : Nat → ClassId) (had : adok ad) (M : Mem) (r w : Int) (hr : -2147483648 ≤ r ∧ r ≤ 2147483647) (hw : -2147483648 ≤ w ∧ w ≤ 2147483647) (hw : RW M) : CtI l yX9_worth wsX9_worth 2 47 D ad cA [.ref (ad 105), .int (zI r), .int (zI w)] M (fun z M1 => qWor r w (aR M) z ∧ KQ M M1) := by
  refine CtI.of (cc := cX9_worth) (maxL := 5) (ret := (some .int)) had (by decide) rfl (Nat.le_of_ble_eq_true rfl) ?_
  intro p e s m args below meth c X hm
  show VV p l e { frames := 2, cells := 0, slots := 0, locals := 47 } s m args below meth c 5 D ad cA (Afr ad s.heap.size) 0 0 (QI below args s D ad cA (fun z M1 => qWor r w (aR M) z ∧ KQ M M1)) M 0 [(0, .ref (ad 105)), (1, .int (zI r)), (2, .int (zI w))] []
  have hw0 := hw
  obtain ⟨hwA, hHi, hwh⟩ := hw
  have hW : rWR M := hwA.2.1
  have hn5 : 0 ≤ M 106 1 ∧ M 106 1 ≤ 5 := by
    have q1 := hW.2.1
    have q2 := hW.1
    omega
  have hsm : 1 ≤ M 106 2 ∧ M 106 2 ≤ 6 := WFs_pos hwA.2.2
  have hwb : ∀ k : Nat, (k : Int) < M 106 2 → (1 ≤ M 106 (23 + k) ∧ M 106 (23 + k) ≤ 999) ∧ (0 ≤ M 106 (29 + k) ∧ M 106 (29 + k) ≤ 100) := fun k hk => WFs_b hwA.2.2 hk
  have hp9 : 1 ≤ M 106 0 ∧ M 106 0 ≤ 99 := hwA.1
  refine vv_aload_n X 0 rfl rfl dX9_worth_0 ?_
  refine vv_iload_n X 1 rfl rfl dX9_worth_1 ?_
  refine vv_callVI (As := [.int (zI r)]) (st := []) (Nf := 20) X 1 (c_X9_isReceiver l D cA had M r (by omega) (by omega)) gX9_worth_X9_isReceiver rfl (by decide +kernel) ⟨by decide, by decide⟩ (Nat.le_of_ble_eq_true rfl) ⟨by decide, by decide⟩ rfl (by decide) sh_105 rfl rfl dX9_worth_2 (fun z2 Mc2 q_2 => ?_)
  obtain ⟨e_z2, g_z2⟩ := q_2
  have g_z2 := g_z2.symm
  subst g_z2
  refine vv_if_ne (tgt := 10) X (by rw [e_z2]; split <;> omega) dX9_worth_5 (by decide) (fun c_5 => ?_) (fun c_5 => ?_)
  · skip
    have hin : 0 ≤ r ∧ r < M 106 1 := Classical.byContradiction fun q => by rw [if_neg q] at e_z2; omega
    have hwr := hW.2.2 r.toNat (by omega)
    have hwo : ∀ k : Nat, (k : Int) < M 106 2 → 0 ≤ M 106 (23 + k) * (if M 106 (29 + k) * rG M r.toNat - (100 - M 106 (29 + k)) * rL M r.toNat < 0 then 0 else M 106 (29 + k) * rG M r.toNat - (100 - M 106 (29 + k)) * rL M r.toNat) ∧ M 106 (23 + k) * (if M 106 (29 + k) * rG M r.toNat - (100 - M 106 (29 + k)) * rL M r.toNat < 0 then 0 else M 106 (29 + k) * rG M r.toNat - (100 - M 106 (29 + k)) * rL M r.toNat) ≤ 9890100 := fun k hk => by
      have hwk := hwb k hk
      have b1 := mulB (a := M 106 (29 + k)) (A := 100) (b := rG M r.toNat) (B := 99) (by omega) (by omega)
      have b2 := mulB (a := 100 - M 106 (29 + k)) (A := 100) (b := rL M r.toNat) (B := 99) (by omega) (by omega)
      have b3 := mulB (a := M 106 (23 + k)) (A := 999) (b := (if M 106 (29 + k) * rG M r.toNat - (100 - M 106 (29 + k)) * rL M r.toNat < 0 then 0 else M 106 (29 + k) * rG M r.toNat - (100 - M 106 (29 + k)) * rL M r.toNat)) (B := 9900) (by omega) (by split <;> omega)
      omega
    refine vv_iconst (n := 0) X dX9_worth_10 ?_
    refine vv_istore_n (lv' := [(3, .int (zI 0)), (0, .ref (ad 105)), (1, .int (zI r)), (2, .int (zI w))]) X rfl (by decide) rfl dX9_worth_11 ?_
    refine vv_iconst (n := 0) X dX9_worth_12 ?_
    refine vv_istore (lv' := [(4, .int (zI 0)), (3, .int (zI 0)), (0, .ref (ad 105)), (1, .int (zI r)), (2, .int (zI w))]) X (by decide) rfl dX9_worth_13 ?_
    have loop_15 : ∀ (n : Nat)  (k : Nat) (a3 : Int) (a4 : Int), a4 = (k : Int) → (k : Int) ≤ M 106 2 → a3 = sm (fun k => M 106 (23 + k) * (if M 106 (29 + k) * rG M r.toNat - (100 - M 106 (29 + k)) * rL M r.toNat < 0 then 0 else M 106 (29 + k) * rG M r.toNat - (100 - M 106 (29 + k)) * rL M r.toNat)) k → (M 106 2 - a4).toNat < n → VV p l e { frames := 2, cells := 0, slots := 0, locals := 47 } s m args below meth c 5 D ad cA (Afr ad s.heap.size) 0 0 (QI below args s D ad cA (fun z M1 => qWor r w (aR M) z ∧ KQ M M1)) M 15 [(0, .ref (ad 105)), (1, .int (zI r)), (2, .int (zI w)), (3, .int (zI a3)), (4, .int (zI a4))] [] := by
      intro n
      induction n with
      | zero => intro k a3 a4 h4 hk h3 hn; exact absurd hn (Nat.not_lt_zero _)
      | succ n ih_15 =>
        intro k a3 a4 h4 hk h3 hn
        have h6 : (23 + a4).toNat = 23 + k := by omega
        have h7 : (29 + a4).toNat = 29 + k := by omega
        have hwk : (k : Int) < M 106 2 → (1 ≤ M 106 (23 + k) ∧ M 106 (23 + k) ≤ 999) ∧ (0 ≤ M 106 (29 + k) ∧ M 106 (29 + k) ≤ 100) := hwb k
        refine vv_iload X 4 rfl dX9_worth_15 ?_
        refine vv_aload_n X 0 rfl rfl dX9_worth_17 ?_
        refine vv_getr (Nf := 20) (ref := (TX9 0).1) X (by decide) sh_105 rfl 0 (by decide) u_X9_worth_9 k_X9_worth_7 rfl rfl dX9_worth_18 ?_
        refine vv_iconst (n := 2) X dX9_worth_21 ?_
        refine vv_iald (z := (M 106 2)) X (by decide) sh_106 (by decide) (by omega) (rfl) dX9_worth_22 ?_
        refine vv_icmp_ge (tgt := 61) X (by omega) (by omega) dX9_worth_23 (by decide) (fun c_23 => ?_) (fun c_23 => ?_)
        · skip
          have e7 : (M 106 2).toNat = k := by omega
          have bs := sm_bm (f := fun k => M 106 (23 + k) * (if M 106 (29 + k) * rG M r.toNat - (100 - M 106 (29 + k)) * rL M r.toNat < 0 then 0 else M 106 (29 + k) * rG M r.toNat - (100 - M 106 (29 + k)) * rL M r.toNat)) (a := 0) (b := 9890100) (n := k) (N := 6) (by omega) (by decide) (by decide) (fun j hj => hwo j (by omega))
          have bt := mn_b hwA
          have bt2 := sm_b (f := fun k => M 106 (23 + k)) (a := 1) (b := 999) (n := (M 106 2).toNat) (fun j hj => (hwb j (by omega)).1)
          refine vv_aload_n X 0 rfl rfl dX9_worth_61 ?_
          refine vv_iload_n X 3 rfl rfl dX9_worth_62 ?_
          refine vv_bipush (n := 100) X (by decide) dX9_worth_63 ?_
          refine vv_aload_n X 0 rfl rfl dX9_worth_65 ?_
          refine vv_callVI (As := []) (st := [.int (zI 100), .int (zI a3), .ref (ad 105)]) (Nf := 20) X 0 (c_X9_weightSum l D cA had M (by omega)) gX9_worth_X9_weightSum rfl (by decide +kernel) ⟨by decide, by decide⟩ (Nat.le_of_ble_eq_true rfl) ⟨by decide, by decide⟩ rfl (by decide) sh_105 rfl rfl dX9_worth_66 (fun z66 Mc66 q_66 => ?_)
          obtain ⟨e_z66, g_z66⟩ := q_66
          have g_z66 := g_z66.symm
          subst g_z66
          have ez66 : z66 = mnT (aR M) := e_z66
          have e9 : a3 = woS (aR M) r.toNat := by rw [h3, ← e7]; rfl
          refine vv_imul X dX9_worth_69 ?_
          refine vv_callVV (As := [.int (zI a3), .int (zI (100 * z66))]) (st := []) (Nf := 20) X 2 (c_X9_takeFraction l D cA had M a3 (100 * z66) (by omega) (by omega) (by omega)) gX9_worth_X9_takeFraction rfl (by decide +kernel) ⟨by decide, by decide⟩ (Nat.le_of_ble_eq_true rfl) ⟨by decide, by decide⟩ rfl (by decide) sh_105 rfl rfl dX9_worth_70 (fun Mm qm => ?_)
          have em0 : Mm 105 10 = frA (woS (aR M) r.toNat) (mnT (aR M) * 100) := by rw [qm, e9, ez66, Int.mul_comm 100]; rfl
          have em1 : Mm 105 11 = frB (woS (aR M) r.toNat) (mnT (aR M) * 100) := by rw [qm, e9, ez66, Int.mul_comm 100]; rfl
          have hK : KQ M Mm := by rw [qm]; exact KQ_up (by decide) (by decide) (KQ_up (by decide) (by decide) (KQ_rf M))
          refine vv_iload_n X 2 rfl rfl dX9_worth_73 ?_
          refine vv_if_ne (tgt := 84) X (by omega) dX9_worth_74 (by decide) (fun c_74 => ?_) (fun c_74 => ?_)
          · skip
            refine vv_iload_n X 2 rfl rfl dX9_worth_84 ?_
            refine vv_iconst (n := 1) X dX9_worth_85 ?_
            refine vv_icmp_ne (tgt := 96) X (by omega) (by omega) dX9_worth_86 (by decide) (fun c_86 => ?_) (fun c_86 => ?_)
            · skip
              refine vv_bipush (n := (-2)) X (by decide) dX9_worth_96 ?_
              exact vv_iret X hm (⟨⟨fun q => absurd hin q, fun _ => ⟨fun q => by first | rfl | (exfalso; omega), fun q => by first | (exfalso; omega) | exact em0, fun q => by first | (exfalso; omega) | exact em1⟩⟩, hK⟩) dX9_worth_98
            · skip
              refine vv_aload_n X 0 rfl rfl dX9_worth_89 ?_
              refine vv_geti (Nf := 20) (ref := (TX9 11).1) (z := (Mm 105 11)) X (by decide) sh_105 rfl 11 (by decide) u_X9_worth_9 k_X9_worth_50 rfl rfl (rfl) dX9_worth_90 ?_
              refine vv_goto (tgt := 98) X (by decide) dX9_worth_93 ?_
              exact vv_iret X hm (⟨⟨fun q => absurd hin q, fun _ => ⟨fun q => by first | rfl | (exfalso; omega), fun q => by first | (exfalso; omega) | exact em0, fun q => by first | (exfalso; omega) | exact em1⟩⟩, hK⟩) dX9_worth_98
          · skip
            refine vv_aload_n X 0 rfl rfl dX9_worth_77 ?_
            refine vv_geti (Nf := 20) (ref := (TX9 10).1) (z := (Mm 105 10)) X (by decide) sh_105 rfl 10 (by decide) u_X9_worth_9 k_X9_worth_47 rfl rfl (rfl) dX9_worth_78 ?_
            refine vv_goto (tgt := 98) X (by decide) dX9_worth_81 ?_
            exact vv_iret X hm (⟨⟨fun q => absurd hin q, fun _ => ⟨fun q => by first | rfl | (exfalso; omega), fun q => by first | (exfalso; omega) | exact em0, fun q => by first | (exfalso; omega) | exact em1⟩⟩, hK⟩) dX9_worth_98
        · skip
          refine vv_iload_n X 3 rfl rfl dX9_worth_26 ?_
          refine vv_aload_n X 0 rfl rfl dX9_worth_27 ?_
          refine vv_getr (Nf := 20) (ref := (TX9 0).1) X (by decide) sh_105 rfl 0 (by decide) u_X9_worth_9 k_X9_worth_7 rfl rfl dX9_worth_28 ?_
          refine vv_bipush (n := 23) X (by decide) dX9_worth_31 ?_
          refine vv_iload X 4 rfl dX9_worth_33 ?_
          refine vv_iadd X dX9_worth_35 ?_
          refine vv_iald (z := (M 106 (23 + k))) X (by decide) sh_106 (by decide) (by omega) (by first | (rw [h6]; done) | (rw [h6]; exact (rfl))) dX9_worth_36 ?_
          refine vv_aload_n X 0 rfl rfl dX9_worth_37 ?_
          refine vv_iload_n X 1 rfl rfl dX9_worth_38 ?_
          refine vv_aload_n X 0 rfl rfl dX9_worth_39 ?_
          refine vv_getr (Nf := 20) (ref := (TX9 0).1) X (by decide) sh_105 rfl 0 (by decide) u_X9_worth_9 k_X9_worth_7 rfl rfl dX9_worth_40 ?_
          refine vv_bipush (n := 29) X (by decide) dX9_worth_43 ?_
          refine vv_iload X 4 rfl dX9_worth_45 ?_
          refine vv_iadd X dX9_worth_47 ?_
          refine vv_iald (z := (M 106 (29 + k))) X (by decide) sh_106 (by decide) (by omega) (by first | (rw [h7]; done) | (rw [h7]; exact (rfl))) dX9_worth_48 ?_
          refine vv_callVI (As := [.int (zI r), .int (zI (M 106 (29 + k)))]) (st := [.int (zI (M 106 (23 + k))), .int (zI a3)]) (Nf := 20) X 2 (c_X9_worthAt l D cA had M r (M 106 (29 + k)) (hin) (by have := hwk (by omega); omega) (hW)) gX9_worth_X9_worthAt rfl (by decide +kernel) ⟨by decide, by decide⟩ (Nat.le_of_ble_eq_true rfl) ⟨by decide, by decide⟩ rfl (by decide) sh_105 rfl rfl dX9_worth_49 (fun z49 Mc49 q_49 => ?_)
          obtain ⟨e_z49, g_z49⟩ := q_49
          have g_z49 := g_z49.symm
          subst g_z49
          refine vv_imul X dX9_worth_52 ?_
          refine vv_iadd X dX9_worth_53 ?_
          refine vv_istore_n (lv' := [(3, .int (zI (a3 + ((M 106 (23 + k)) * z49)))), (0, .ref (ad 105)), (1, .int (zI r)), (2, .int (zI w)), (4, .int (zI a4))]) X rfl (by decide) rfl dX9_worth_54 ?_
          refine vv_iinc (lv' := [(4, .int (zI (a4 + 1))), (3, .int (zI (a3 + ((M 106 (23 + k)) * z49)))), (0, .ref (ad 105)), (1, .int (zI r)), (2, .int (zI w))]) X 4 rfl (by decide) rfl dX9_worth_55 ?_
          refine vv_goto (tgt := 15) X (by decide) dX9_worth_58 ?_
          refine vv_sub (lv' := [(0, .ref (ad 105)), (1, .int (zI r)), (2, .int (zI w)), (3, .int (zI (a3 + ((M 106 (23 + k)) * z49)))), (4, .int (zI (a4 + 1)))]) [2, 3, 4, 1, 0] rfl ?_
          exact ih_15 (k + 1) (a3 + ((M 106 (23 + k)) * z49)) (a4 + 1) (by omega) (by omega) (by simp only [sm]; rw [h3, e_z49]) (by omega)
    refine vv_sub (lv' := [(0, .ref (ad 105)), (1, .int (zI r)), (2, .int (zI w)), (3, .int (zI 0)), (4, .int (zI 0))]) [2, 3, 4, 1, 0] rfl ?_
    exact loop_15 _ 0 0 0 rfl (by omega) rfl (Nat.lt_succ_self _)
  · skip
    have hin : ¬ (0 ≤ r ∧ r < M 106 1) := fun q => by rw [if_pos q] at e_z2; omega
    refine vv_iconst (n := (-1)) X dX9_worth_8 ?_
    exact vv_iret X hm (⟨⟨fun _ => rfl, fun q => absurd q hin⟩, KQ_rf M⟩) dX9_worth_9
theorem u_X9_isBest_9 : ∀ w ∈ u_ws RX9 TX9 20, w ∈ wsX9_isBest := by decide +kernel
theorem k_X9_isBest_7 : Cond.fieldLink yX9_isBest.cls 7 (TX9 0).1 (TX9 0).2.1 (TX9 0).2.2.1 ∈ wsX9_isBest := by decide +kernel
theorem k_X9_isBest_47 : Cond.fieldLink yX9_isBest.cls 47 (TX9 10).1 (TX9 10).2.1 (TX9 10).2.2.1 ∈ wsX9_isBest := by decide +kernel
theorem k_X9_isBest_50 : Cond.fieldLink yX9_isBest.cls 50 (TX9 11).1 (TX9 11).2.1 (TX9 11).2.2.1 ∈ wsX9_isBest := by decide +kernel
set_option maxRecDepth 100000 in
set_option maxHeartbeats 4000000 in
theorem c_X9_isBest (l : Launch) (D : va_G) {ad : Nat → Nat} (cA : Nat → ClassId) (had : adok ad) (M : Mem)  (hw : RW M) : CtI l yX9_isBest wsX9_isBest 5 118 D ad cA [.ref (ad 105)] M (fun z M1 => (∃ lo hi : Int, isB (vA (aR M)) (aR M).1 lo hi ∧ z = if frA (mnS (aR M)) (mnT (aR M)) = frA (sN (vA (aR M)) (aR M).1 lo hi) (sD lo hi) ∧ frB (mnS (aR M)) (mnT (aR M)) = frB (sN (vA (aR M)) (aR M).1 lo hi) (sD lo hi) then 1 else 0) ∧ KQ M M1) := by
  refine CtI.of (cc := cX9_isBest) (maxL := 3) (ret := (some .boolean)) had (by decide) rfl (Nat.le_of_ble_eq_true rfl) ?_
  intro p e s m args below meth c X hm
  show VV p l e { frames := 5, cells := 0, slots := 0, locals := 118 } s m args below meth c 3 D ad cA (Afr ad s.heap.size) 0 0 (QI below args s D ad cA (fun z M1 => (∃ lo hi : Int, isB (vA (aR M)) (aR M).1 lo hi ∧ z = if frA (mnS (aR M)) (mnT (aR M)) = frA (sN (vA (aR M)) (aR M).1 lo hi) (sD lo hi) ∧ frB (mnS (aR M)) (mnT (aR M)) = frB (sN (vA (aR M)) (aR M).1 lo hi) (sD lo hi) then 1 else 0) ∧ KQ M M1)) M 0 [(0, .ref (ad 105))] []
  have hw0 := hw
  obtain ⟨hwA, hHi, hwh⟩ := hw
  have hW : rWR M := hwA.2.1
  have hn5 : 0 ≤ M 106 1 ∧ M 106 1 ≤ 5 := by
    have q1 := hW.2.1
    have q2 := hW.1
    omega
  have hsm : 1 ≤ M 106 2 ∧ M 106 2 ≤ 6 := WFs_pos hwA.2.2
  have hwb : ∀ k : Nat, (k : Int) < M 106 2 → (1 ≤ M 106 (23 + k) ∧ M 106 (23 + k) ≤ 999) ∧ (0 ≤ M 106 (29 + k) ∧ M 106 (29 + k) ≤ 100) := fun k hk => WFs_b hwA.2.2 hk
  have hp9 : 1 ≤ M 106 0 ∧ M 106 0 ≤ 99 := hwA.1
  refine vv_aload_n X 0 rfl rfl dX9_isBest_0 ?_
  refine vv_callVV (As := []) (st := []) (Nf := 20) X 0 (c_X9_takeMean l D cA had M (hsm) (hwb) (hW)) gX9_isBest_X9_takeMean rfl (by decide +kernel) ⟨by decide, by decide⟩ (Nat.le_of_ble_eq_true rfl) ⟨by decide, by decide⟩ rfl (by decide) sh_105 rfl rfl dX9_isBest_1 (fun Mm qm => ?_)
  have em0 : Mm 105 10 = frA (mnS (aR M)) (mnT (aR M)) := by rw [qm]; rfl
  have em1 : Mm 105 11 = frB (mnS (aR M)) (mnT (aR M)) := by rw [qm]; rfl
  have hK : KQ M Mm := by rw [qm]; exact KQ_up (by decide) (by decide) (KQ_up (by decide) (by decide) (KQ_rf M))
  have bq := mn_b hwA
  have bf := fr_b (a := mnS (aR M)) (b := mnT (aR M)) (A := 1073741824) bq.1 bq.2.1
  have e106 : Mm 106 = M 106 := hK.1 106 (by decide)
  have hWm : rWR Mm := by unfold rWR rL rG rP rB; rw [e106]; exact hW
  have em106 : Mm 106 0 = M 106 0 := by rw [e106]
  have evm : rvl Mm = vA (aR M) := by unfold rvl rL rG rP rB; rw [e106]; rfl
  refine vv_aload_n X 0 rfl rfl dX9_isBest_4 ?_
  refine vv_geti (Nf := 20) (ref := (TX9 10).1) (z := (Mm 105 10)) X (by decide) sh_105 rfl 10 (by decide) u_X9_isBest_9 k_X9_isBest_47 rfl rfl (rfl) dX9_isBest_5 ?_
  refine vv_istore_n (lv' := [(1, .int (zI (Mm 105 10))), (0, .ref (ad 105))]) X rfl (by decide) rfl dX9_isBest_8 ?_
  refine vv_aload_n X 1 rfl rfl dX9_isBest_9 ?_
  refine vv_geti (Nf := 20) (ref := (TX9 11).1) (z := (Mm 105 11)) X (by decide) sh_105 rfl 11 (by decide) u_X9_isBest_9 k_X9_isBest_50 rfl rfl (rfl) dX9_isBest_10 ?_
  refine vv_istore_n (lv' := [(2, .int (zI (Mm 105 11))), (1, .int (zI (Mm 105 10))), (0, .ref (ad 105))]) X rfl (by decide) rfl dX9_isBest_13 ?_
  refine vv_aload_n X 2 rfl rfl dX9_isBest_14 ?_
  refine vv_aload_n X 2 rfl rfl dX9_isBest_15 ?_
  refine vv_getr (Nf := 20) (ref := (TX9 0).1) X (by decide) sh_105 rfl 0 (by decide) u_X9_isBest_9 k_X9_isBest_7 rfl rfl dX9_isBest_16 ?_
  refine vv_iconst (n := 0) X dX9_isBest_19 ?_
  refine vv_iald (z := (Mm 106 0)) X (by decide) sh_106 (by decide) (by omega) (rfl) dX9_isBest_20 ?_
  refine vv_callVV (As := [.int (zI (Mm 106 0))]) (st := []) (Nf := 20) X 1 (c_X9_takeEnvelope l D cA had Mm (Mm 106 0) (by omega) (hWm)) gX9_isBest_X9_takeEnvelope rfl (by decide +kernel) ⟨by decide, by decide⟩ (Nat.le_of_ble_eq_true rfl) ⟨by decide, by decide⟩ rfl (by decide) sh_105 rfl rfl dX9_isBest_21 (fun Me qe => ?_)
  obtain ⟨lo, hi, hB, qe⟩ := qe
  rw [evm, em106] at hB qe
  have g1 : Me 105 10 = frA (sN (vA (aR M)) (aR M).1 lo hi) (sD lo hi) := by rw [qe]; rfl
  have g2 : Me 105 11 = frB (sN (vA (aR M)) (aR M).1 lo hi) (sD lo hi) := by rw [qe]; rfl
  have hK2 : KQ M Me := by rw [qe]; exact KQ_up (by decide) (by decide) (KQ_up (by decide) (by decide) (KQ_up (by decide) (by decide) (KQ_up (by decide) (by decide) hK)))
  have b2 := fr_b (a := sN (vA (aR M)) (aR M).1 lo hi) (b := sD lo hi) (A := 198000) (sN_b (fun y => vl_b hW.2) (by have : (aR M).1 = M 106 0 := rfl; omega) hB.1) (sD_pos hB.1)
  have b4 := sD_b (by have : (aR M).1 = M 106 0 := rfl; omega) hB.1
  refine vv_iload_n X 1 rfl rfl dX9_isBest_24 ?_
  refine vv_aload_n X 2 rfl rfl dX9_isBest_25 ?_
  refine vv_geti (Nf := 20) (ref := (TX9 10).1) (z := (Me 105 10)) X (by decide) sh_105 rfl 10 (by decide) u_X9_isBest_9 k_X9_isBest_47 rfl rfl (rfl) dX9_isBest_26 ?_
  refine vv_icmp_ne (tgt := 44) X (by omega) (by omega) dX9_isBest_29 (by decide) (fun c_29 => ?_) (fun c_29 => ?_)
  · skip
    refine vv_iconst (n := 0) X dX9_isBest_44 ?_
    exact vv_zret X hm (by omega) (⟨⟨lo, hi, hB, by
      first
      | rw [if_pos ⟨by omega, by omega⟩]
      | rw [if_neg (fun q => by have q1 := q.1; have q2 := q.2; omega)]⟩, hK2⟩) dX9_isBest_45
  · skip
    refine vv_iload_n X 0 rfl rfl dX9_isBest_32 ?_
    refine vv_aload_n X 2 rfl rfl dX9_isBest_33 ?_
    refine vv_geti (Nf := 20) (ref := (TX9 11).1) (z := (Me 105 11)) X (by decide) sh_105 rfl 11 (by decide) u_X9_isBest_9 k_X9_isBest_50 rfl rfl (rfl) dX9_isBest_34 ?_
    refine vv_icmp_ne (tgt := 44) X (by omega) (by omega) dX9_isBest_37 (by decide) (fun c_37 => ?_) (fun c_37 => ?_)
    · skip
      refine vv_iconst (n := 0) X dX9_isBest_44 ?_
      exact vv_zret X hm (by omega) (⟨⟨lo, hi, hB, by
        first
        | rw [if_pos ⟨by omega, by omega⟩]
        | rw [if_neg (fun q => by have q1 := q.1; have q2 := q.2; omega)]⟩, hK2⟩) dX9_isBest_45
    · skip
      refine vv_iconst (n := 1) X dX9_isBest_40 ?_
      refine vv_goto (tgt := 45) X (by decide) dX9_isBest_41 ?_
      exact vv_zret X hm (by omega) (⟨⟨lo, hi, hB, by
        first
        | rw [if_pos ⟨by omega, by omega⟩]
        | rw [if_neg (fun q => by have q1 := q.1; have q2 := q.2; omega)]⟩, hK2⟩) dX9_isBest_45
theorem u_X9_count_9 : ∀ w ∈ u_ws RX9 TX9 20, w ∈ wsX9_count := by decide +kernel
theorem k_X9_count_7 : Cond.fieldLink yX9_count.cls 7 (TX9 0).1 (TX9 0).2.1 (TX9 0).2.2.1 ∈ wsX9_count := by decide +kernel
theorem k_X9_count_35 : Cond.fieldLink yX9_count.cls 35 (TX9 2).1 (TX9 2).2.1 (TX9 2).2.2.1 ∈ wsX9_count := by decide +kernel
theorem k_X9_count_150 : Cond.fieldLink yX9_count.cls 150 (TX9 6).1 (TX9 6).2.1 (TX9 6).2.2.1 ∈ wsX9_count := by decide +kernel
set_option maxRecDepth 100000 in
set_option maxHeartbeats 4000000 in
theorem c_X9_count (l : Launch) (D : va_G) {ad : Nat → Nat} (cA : Nat → ClassId) (had : adok ad) (M : Mem) (w : Int) (hw : -2147483648 ≤ w ∧ w ≤ 2147483647) (hw : RW M) : CtI l yX9_count wsX9_count 6 140 D ad cA [.ref (ad 105), .int (zI w)] M (fun z M1 => qCnt w (aR M) z ∧ (w = 5 → z = M 105 6) ∧ (w = 6 → z = M 105 2) ∧ KQ M M1) := by
  refine CtI.of (cc := cX9_count) (maxL := 2) (ret := (some .int)) had (by decide) rfl (Nat.le_of_ble_eq_true rfl) ?_
  intro p e s m args below meth c X hm
  show VV p l e { frames := 6, cells := 0, slots := 0, locals := 140 } s m args below meth c 2 D ad cA (Afr ad s.heap.size) 0 0 (QI below args s D ad cA (fun z M1 => qCnt w (aR M) z ∧ (w = 5 → z = M 105 6) ∧ (w = 6 → z = M 105 2) ∧ KQ M M1)) M 0 [(0, .ref (ad 105)), (1, .int (zI w))] []
  have hw0 := hw
  obtain ⟨hwA, hHi, hwh⟩ := hw
  have hW : rWR M := hwA.2.1
  have hn5 : 0 ≤ M 106 1 ∧ M 106 1 ≤ 5 := by
    have q1 := hW.2.1
    have q2 := hW.1
    omega
  have hsm : 1 ≤ M 106 2 ∧ M 106 2 ≤ 6 := WFs_pos hwA.2.2
  have hwb : ∀ k : Nat, (k : Int) < M 106 2 → (1 ≤ M 106 (23 + k) ∧ M 106 (23 + k) ≤ 999) ∧ (0 ≤ M 106 (29 + k) ∧ M 106 (29 + k) ≤ 100) := fun k hk => WFs_b hwA.2.2 hk
  have hp9 : 1 ≤ M 106 0 ∧ M 106 0 ≤ 99 := hwA.1
  refine vv_iload_n X 1 rfl rfl dX9_count_0 ?_
  by_cases c_1 : w < 0 ∨ 6 < w
  · skip
    refine vv_tabOut (tgt := 79) X (by omega) dX9_count_1 c_1 (by decide) ?_
    refine vv_bipush (n := (-2)) X (by decide) dX9_count_79 ?_
    exact vv_iret X hm (⟨⟨fun q => by first | (exfalso; omega) | rfl, fun q => by first | (exfalso; omega) | rfl, fun q => by first | (exfalso; omega) | rfl, fun q => by first | (exfalso; omega) | exact e_z52, fun q => by first | (exfalso; omega) | rfl, fun q => by first | (exfalso; omega) | rfl⟩, fun q => by first | (exfalso; omega) | rfl, fun q => by first | (exfalso; omega) | rfl, KQ_rf M⟩) dX9_count_81
  by_cases c_1_0 : w = 0
  · skip
    refine vv_tabIn (tgt := 44) (off := 43) X (by omega) dX9_count_1 (by omega) (by omega) (by rw [c_1_0]; rfl) (by decide) ?_
    refine vv_aload_n X 0 rfl rfl dX9_count_44 ?_
    refine vv_getr (Nf := 20) (ref := (TX9 0).1) X (by decide) sh_105 rfl 0 (by decide) u_X9_count_9 k_X9_count_7 rfl rfl dX9_count_45 ?_
    refine vv_iload_n X 1 rfl rfl dX9_count_48 ?_
    refine vv_iald (z := (M 106 (Int.toNat w))) X (by decide) sh_106 (by decide) (by omega) (rfl) dX9_count_49 ?_
    exact vv_iret X hm (⟨⟨fun q => by first | (exfalso; omega) | exact congrArg (M 106) (show w.toNat = 0 by omega), fun q => by first | (exfalso; omega) | exact congrArg (M 106) (show w.toNat = 1 by omega), fun q => by first | (exfalso; omega) | exact congrArg (M 106) (show w.toNat = 2 by omega), fun q => by first | (exfalso; omega) | rfl, fun q => by first | (exfalso; omega) | rfl, fun q => by first | (exfalso; omega) | rfl⟩, fun q => by first | (exfalso; omega) | rfl, fun q => by first | (exfalso; omega) | rfl, KQ_rf M⟩) dX9_count_50
  by_cases c_1_1 : w = 1
  · skip
    refine vv_tabIn (tgt := 44) (off := 43) X (by omega) dX9_count_1 (by omega) (by omega) (by rw [c_1_1]; rfl) (by decide) ?_
    refine vv_aload_n X 0 rfl rfl dX9_count_44 ?_
    refine vv_getr (Nf := 20) (ref := (TX9 0).1) X (by decide) sh_105 rfl 0 (by decide) u_X9_count_9 k_X9_count_7 rfl rfl dX9_count_45 ?_
    refine vv_iload_n X 1 rfl rfl dX9_count_48 ?_
    refine vv_iald (z := (M 106 (Int.toNat w))) X (by decide) sh_106 (by decide) (by omega) (rfl) dX9_count_49 ?_
    exact vv_iret X hm (⟨⟨fun q => by first | (exfalso; omega) | exact congrArg (M 106) (show w.toNat = 0 by omega), fun q => by first | (exfalso; omega) | exact congrArg (M 106) (show w.toNat = 1 by omega), fun q => by first | (exfalso; omega) | exact congrArg (M 106) (show w.toNat = 2 by omega), fun q => by first | (exfalso; omega) | rfl, fun q => by first | (exfalso; omega) | rfl, fun q => by first | (exfalso; omega) | rfl⟩, fun q => by first | (exfalso; omega) | rfl, fun q => by first | (exfalso; omega) | rfl, KQ_rf M⟩) dX9_count_50
  by_cases c_1_2 : w = 2
  · skip
    refine vv_tabIn (tgt := 44) (off := 43) X (by omega) dX9_count_1 (by omega) (by omega) (by rw [c_1_2]; rfl) (by decide) ?_
    refine vv_aload_n X 0 rfl rfl dX9_count_44 ?_
    refine vv_getr (Nf := 20) (ref := (TX9 0).1) X (by decide) sh_105 rfl 0 (by decide) u_X9_count_9 k_X9_count_7 rfl rfl dX9_count_45 ?_
    refine vv_iload_n X 1 rfl rfl dX9_count_48 ?_
    refine vv_iald (z := (M 106 (Int.toNat w))) X (by decide) sh_106 (by decide) (by omega) (rfl) dX9_count_49 ?_
    exact vv_iret X hm (⟨⟨fun q => by first | (exfalso; omega) | exact congrArg (M 106) (show w.toNat = 0 by omega), fun q => by first | (exfalso; omega) | exact congrArg (M 106) (show w.toNat = 1 by omega), fun q => by first | (exfalso; omega) | exact congrArg (M 106) (show w.toNat = 2 by omega), fun q => by first | (exfalso; omega) | rfl, fun q => by first | (exfalso; omega) | rfl, fun q => by first | (exfalso; omega) | rfl⟩, fun q => by first | (exfalso; omega) | rfl, fun q => by first | (exfalso; omega) | rfl, KQ_rf M⟩) dX9_count_50
  by_cases c_1_3 : w = 3
  · skip
    refine vv_tabIn (tgt := 51) (off := 50) X (by omega) dX9_count_1 (by omega) (by omega) (by rw [c_1_3]; rfl) (by decide) ?_
    refine vv_aload_n X 0 rfl rfl dX9_count_51 ?_
    refine vv_callVI (As := []) (st := []) (Nf := 20) X 0 (c_X9_weightSum l D cA had M (by omega)) gX9_count_X9_weightSum rfl (by decide +kernel) ⟨by decide, by decide⟩ (Nat.le_of_ble_eq_true rfl) ⟨by decide, by decide⟩ rfl (by decide) sh_105 rfl rfl dX9_count_52 (fun z52 Mc52 q_52 => ?_)
    obtain ⟨e_z52, g_z52⟩ := q_52
    have g_z52 := g_z52.symm
    subst g_z52
    exact vv_iret X hm (⟨⟨fun q => by first | (exfalso; omega) | rfl, fun q => by first | (exfalso; omega) | rfl, fun q => by first | (exfalso; omega) | rfl, fun q => by first | (exfalso; omega) | exact e_z52, fun q => by first | (exfalso; omega) | rfl, fun q => by first | (exfalso; omega) | rfl⟩, fun q => by first | (exfalso; omega) | rfl, fun q => by first | (exfalso; omega) | rfl, KQ_rf M⟩) dX9_count_55
  by_cases c_1_4 : w = 4
  · skip
    refine vv_tabIn (tgt := 56) (off := 55) X (by omega) dX9_count_1 (by omega) (by omega) (by rw [c_1_4]; rfl) (by decide) ?_
    refine vv_aload_n X 0 rfl rfl dX9_count_56 ?_
    refine vv_callVI (As := []) (st := []) (Nf := 20) X 0 (c_X9_isBest l D cA had M   (hw0)) gX9_count_X9_isBest rfl (by decide +kernel) ⟨by decide, by decide⟩ (Nat.le_of_ble_eq_true rfl) ⟨by decide, by decide⟩ rfl (by decide) sh_105 rfl rfl dX9_count_57 (fun z57 Mc57 q_57 => ?_)
    refine vv_if_eq (tgt := 67) X (by obtain ⟨⟨lo, hi, k1, k2⟩, k3⟩ := q_57; rw [k2]; split <;> omega) dX9_count_60 (by decide) (fun c_60 => ?_) (fun c_60 => ?_)
    · skip
      obtain ⟨⟨lo, hi, k1, k2⟩, k3⟩ := q_57
      refine vv_iconst (n := 0) X dX9_count_67 ?_
      exact vv_iret X hm (⟨⟨fun q => by first | (exfalso; omega) | rfl, fun q => by first | (exfalso; omega) | rfl, fun q => by first | (exfalso; omega) | rfl, fun q => by first | (exfalso; omega) | rfl, fun _ => ⟨lo, hi, k1, by split at k2 <;> omega⟩, fun q => by first | (exfalso; omega) | rfl⟩, fun q => by first | (exfalso; omega) | rfl, fun q => by first | (exfalso; omega) | rfl, k3⟩) dX9_count_68
    · skip
      obtain ⟨⟨lo, hi, k1, k2⟩, k3⟩ := q_57
      refine vv_iconst (n := 1) X dX9_count_63 ?_
      refine vv_goto (tgt := 68) X (by decide) dX9_count_64 ?_
      exact vv_iret X hm (⟨⟨fun q => by first | (exfalso; omega) | rfl, fun q => by first | (exfalso; omega) | rfl, fun q => by first | (exfalso; omega) | rfl, fun q => by first | (exfalso; omega) | rfl, fun _ => ⟨lo, hi, k1, by split at k2 <;> omega⟩, fun q => by first | (exfalso; omega) | rfl⟩, fun q => by first | (exfalso; omega) | rfl, fun q => by first | (exfalso; omega) | rfl, k3⟩) dX9_count_68
  by_cases c_1_5 : w = 5
  · skip
    refine vv_tabIn (tgt := 69) (off := 68) X (by omega) dX9_count_1 (by omega) (by omega) (by rw [c_1_5]; rfl) (by decide) ?_
    refine vv_aload_n X 0 rfl rfl dX9_count_69 ?_
    refine vv_geti (Nf := 20) (ref := (TX9 6).1) (z := (M 105 6)) X (by decide) sh_105 rfl 6 (by decide) u_X9_count_9 k_X9_count_150 rfl rfl (rfl) dX9_count_70 ?_
    exact vv_iret X hm (⟨⟨fun q => by first | (exfalso; omega) | rfl, fun q => by first | (exfalso; omega) | rfl, fun q => by first | (exfalso; omega) | rfl, fun q => by first | (exfalso; omega) | exact e_z52, fun q => by first | (exfalso; omega) | rfl, fun q => by first | (exfalso; omega) | rfl⟩, fun q => by first | (exfalso; omega) | rfl, fun q => by first | (exfalso; omega) | rfl, KQ_rf M⟩) dX9_count_73
  have c_1_6 : w = 6 := by omega
  · skip
    refine vv_tabIn (tgt := 74) (off := 73) X (by omega) dX9_count_1 (by omega) (by omega) (by rw [c_1_6]; rfl) (by decide) ?_
    refine vv_aload_n X 0 rfl rfl dX9_count_74 ?_
    refine vv_geti (Nf := 20) (ref := (TX9 2).1) (z := (M 105 2)) X (by decide) sh_105 rfl 2 (by decide) u_X9_count_9 k_X9_count_35 rfl rfl (rfl) dX9_count_75 ?_
    exact vv_iret X hm (⟨⟨fun q => by first | (exfalso; omega) | rfl, fun q => by first | (exfalso; omega) | rfl, fun q => by first | (exfalso; omega) | rfl, fun q => by first | (exfalso; omega) | exact e_z52, fun q => by first | (exfalso; omega) | rfl, fun q => by first | (exfalso; omega) | rfl⟩, fun q => by first | (exfalso; omega) | rfl, fun q => by first | (exfalso; omega) | rfl, KQ_rf M⟩) dX9_count_78
theorem u_X9_envelope_9 : ∀ w ∈ u_ws RX9 TX9 20, w ∈ wsX9_envelope := by decide +kernel
theorem k_X9_envelope_47 : Cond.fieldLink yX9_envelope.cls 47 (TX9 10).1 (TX9 10).2.1 (TX9 10).2.2.1 ∈ wsX9_envelope := by decide +kernel
theorem k_X9_envelope_50 : Cond.fieldLink yX9_envelope.cls 50 (TX9 11).1 (TX9 11).2.1 (TX9 11).2.2.1 ∈ wsX9_envelope := by decide +kernel
set_option maxRecDepth 100000 in
set_option maxHeartbeats 4000000 in
theorem c_X9_envelope (l : Launch) (D : va_G) {ad : Nat → Nat} (cA : Nat → ClassId) (had : adok ad) (M : Mem) (x w : Int) (hx : -2147483648 ≤ x ∧ x ≤ 2147483647) (hw : -2147483648 ≤ w ∧ w ≤ 2147483647) (hw : RW M) : CtI l yX9_envelope wsX9_envelope 5 118 D ad cA [.ref (ad 105), .int (zI x), .int (zI w)] M (fun z M1 => qEnv x w (aR M) z ∧ KQ M M1) := by
  refine CtI.of (cc := cX9_envelope) (maxL := 3) (ret := (some .int)) had (by decide) rfl (Nat.le_of_ble_eq_true rfl) ?_
  intro p e s m args below meth c X hm
  show VV p l e { frames := 5, cells := 0, slots := 0, locals := 118 } s m args below meth c 3 D ad cA (Afr ad s.heap.size) 0 0 (QI below args s D ad cA (fun z M1 => qEnv x w (aR M) z ∧ KQ M M1)) M 0 [(0, .ref (ad 105)), (1, .int (zI x)), (2, .int (zI w))] []
  have hw0 := hw
  obtain ⟨hwA, hHi, hwh⟩ := hw
  have hW : rWR M := hwA.2.1
  have hn5 : 0 ≤ M 106 1 ∧ M 106 1 ≤ 5 := by
    have q1 := hW.2.1
    have q2 := hW.1
    omega
  have hsm : 1 ≤ M 106 2 ∧ M 106 2 ≤ 6 := WFs_pos hwA.2.2
  have hwb : ∀ k : Nat, (k : Int) < M 106 2 → (1 ≤ M 106 (23 + k) ∧ M 106 (23 + k) ≤ 999) ∧ (0 ≤ M 106 (29 + k) ∧ M 106 (29 + k) ≤ 100) := fun k hk => WFs_b hwA.2.2 hk
  have hp9 : 1 ≤ M 106 0 ∧ M 106 0 ≤ 99 := hwA.1
  refine vv_iload_n X 1 rfl rfl dX9_envelope_0 ?_
  refine vv_callSI (As := [.int (zI x)]) (st := []) X 1 (c_X9_isShare l D cA had M x (by omega)) gX9_envelope_X9_isShare rfl (by decide +kernel) ⟨by decide, by decide⟩ (Nat.le_of_ble_eq_true rfl) ⟨by decide, by decide⟩ rfl rfl dX9_envelope_1 (fun z1 Mc1 q_1 => ?_)
  obtain ⟨e_z1, g_z1⟩ := q_1
  have g_z1 := g_z1.symm
  subst g_z1
  refine vv_if_eq (tgt := 16) X (by rw [e_z1]; split <;> omega) dX9_envelope_4 (by decide) (fun c_4 => ?_) (fun c_4 => ?_)
  · skip
    have hin : ¬ (0 ≤ x ∧ x ≤ 100) := fun q => by rw [if_pos q] at e_z1; omega
    refine vv_bipush (n := (-2)) X (by decide) dX9_envelope_16 ?_
    exact vv_iret X hm (⟨⟨fun _ => rfl, fun q => by first | exact absurd q.1 hin | exact absurd (show 0 ≤ w ∧ w ≤ 1 by have := q.2; omega) hin2⟩, KQ_rf M⟩) dX9_envelope_18
  · skip
    have hin : 0 ≤ x ∧ x ≤ 100 := Classical.byContradiction fun q => by rw [if_neg q] at e_z1; omega
    refine vv_iload_n X 2 rfl rfl dX9_envelope_7 ?_
    refine vv_iconst (n := 0) X dX9_envelope_8 ?_
    refine vv_iconst (n := 1) X dX9_envelope_9 ?_
    refine vv_callSI (As := [.int (zI w), .int (zI 0), .int (zI 1)]) (st := []) X 3 (c_X9_within l D cA had M w 0 1 (by omega) (by omega) (by omega)) gX9_envelope_X9_within rfl (by decide +kernel) ⟨by decide, by decide⟩ (Nat.le_of_ble_eq_true rfl) ⟨by decide, by decide⟩ rfl rfl dX9_envelope_10 (fun z10 Mc10 q_10 => ?_)
    obtain ⟨e_z10, g_z10⟩ := q_10
    have g_z10 := g_z10.symm
    subst g_z10
    refine vv_if_ne (tgt := 19) X (by rw [e_z10]; split <;> omega) dX9_envelope_13 (by decide) (fun c_13 => ?_) (fun c_13 => ?_)
    · skip
      have hin2 : 0 ≤ w ∧ w ≤ 1 := Classical.byContradiction fun q => by rw [if_neg q] at e_z10; omega
      refine vv_aload_n X 0 rfl rfl dX9_envelope_19 ?_
      refine vv_iload_n X 1 rfl rfl dX9_envelope_20 ?_
      refine vv_callVV (As := [.int (zI x)]) (st := []) (Nf := 20) X 1 (c_X9_takeEnvelope l D cA had M x (by omega) (hW)) gX9_envelope_X9_takeEnvelope rfl (by decide +kernel) ⟨by decide, by decide⟩ (Nat.le_of_ble_eq_true rfl) ⟨by decide, by decide⟩ rfl (by decide) sh_105 rfl rfl dX9_envelope_21 (fun Me qe => ?_)
      obtain ⟨lo, hi, hB, qe⟩ := qe
      have g1 : Me 105 10 = frA (sN (vA (aR M)) x lo hi) (sD lo hi) := by rw [qe]; rfl
      have g2 : Me 105 11 = frB (sN (vA (aR M)) x lo hi) (sD lo hi) := by rw [qe]; rfl
      have g3 : Me 105 12 = lo := by rw [qe]; rfl
      have g4 : Me 105 13 = hi := by rw [qe]; rfl
      have hK : KQ M Me := by rw [qe]; exact KQ_up (by decide) (by decide) (KQ_up (by decide) (by decide) (KQ_up (by decide) (by decide) (KQ_up (by decide) (by decide) (KQ_rf M))))
      have b2 := fr_b (a := sN (vA (aR M)) x lo hi) (b := sD lo hi) (A := 198000) (sN_b (fun y => vl_b hW.2) hin hB.1) (sD_pos hB.1)
      refine vv_iload_n X 2 rfl rfl dX9_envelope_24 ?_
      refine vv_if_ne (tgt := 38) X (by omega) dX9_envelope_25 (by decide) (fun c_25 => ?_) (fun c_25 => ?_)
      · skip
        refine vv_aload_n X 0 rfl rfl dX9_envelope_38 ?_
        refine vv_geti (Nf := 20) (ref := (TX9 11).1) (z := (Me 105 11)) X (by decide) sh_105 rfl 11 (by decide) u_X9_envelope_9 k_X9_envelope_50 rfl rfl (rfl) dX9_envelope_39 ?_
        exact vv_iret X hm (⟨⟨fun q => absurd ⟨hin, by omega⟩ q, fun _ => ⟨lo, hi, hB, fun q => by first | (exfalso; omega) | rw [g1], fun q => by first | (exfalso; omega) | exact g2⟩⟩, hK⟩) dX9_envelope_42
      · skip
        refine vv_aload_n X 0 rfl rfl dX9_envelope_28 ?_
        refine vv_geti (Nf := 20) (ref := (TX9 10).1) (z := (Me 105 10)) X (by decide) sh_105 rfl 10 (by decide) u_X9_envelope_9 k_X9_envelope_47 rfl rfl (rfl) dX9_envelope_29 ?_
        refine vv_ldc (n := 10000000) (v := 10000000) X (by decide +kernel) (by decide) dX9_envelope_32 ?_
        refine vv_iadd X dX9_envelope_34 ?_
        refine vv_goto (tgt := 42) X (by decide) dX9_envelope_35 ?_
        exact vv_iret X hm (⟨⟨fun q => absurd ⟨hin, by omega⟩ q, fun _ => ⟨lo, hi, hB, fun q => by first | (exfalso; omega) | rw [g1], fun q => by first | (exfalso; omega) | exact g2⟩⟩, hK⟩) dX9_envelope_42
    · skip
      have hin2 : ¬ (0 ≤ w ∧ w ≤ 1) := fun q => by rw [if_pos q] at e_z10; omega
      refine vv_bipush (n := (-2)) X (by decide) dX9_envelope_16 ?_
      exact vv_iret X hm (⟨⟨fun _ => rfl, fun q => by first | exact absurd q.1 hin | exact absurd (show 0 ≤ w ∧ w ≤ 1 by have := q.2; omega) hin2⟩, KQ_rf M⟩) dX9_envelope_18
theorem u_X9_best_9 : ∀ w ∈ u_ws RX9 TX9 20, w ∈ wsX9_best := by decide +kernel
theorem k_X9_best_91 : Cond.fieldLink yX9_best.cls 91 (TX9 12).1 (TX9 12).2.1 (TX9 12).2.2.1 ∈ wsX9_best := by decide +kernel
theorem k_X9_best_94 : Cond.fieldLink yX9_best.cls 94 (TX9 13).1 (TX9 13).2.1 (TX9 13).2.2.1 ∈ wsX9_best := by decide +kernel
set_option maxRecDepth 100000 in
set_option maxHeartbeats 4000000 in
theorem c_X9_best (l : Launch) (D : va_G) {ad : Nat → Nat} (cA : Nat → ClassId) (had : adok ad) (M : Mem) (x w : Int) (hx : -2147483648 ≤ x ∧ x ≤ 2147483647) (hw : -2147483648 ≤ w ∧ w ≤ 2147483647) (hw : RW M) : CtI l yX9_best wsX9_best 5 118 D ad cA [.ref (ad 105), .int (zI x), .int (zI w)] M (fun z M1 => qBst x w (aR M) z ∧ KQ M M1) := by
  refine CtI.of (cc := cX9_best) (maxL := 3) (ret := (some .int)) had (by decide) rfl (Nat.le_of_ble_eq_true rfl) ?_
  intro p e s m args below meth c X hm
  show VV p l e { frames := 5, cells := 0, slots := 0, locals := 118 } s m args below meth c 3 D ad cA (Afr ad s.heap.size) 0 0 (QI below args s D ad cA (fun z M1 => qBst x w (aR M) z ∧ KQ M M1)) M 0 [(0, .ref (ad 105)), (1, .int (zI x)), (2, .int (zI w))] []
  have hw0 := hw
  obtain ⟨hwA, hHi, hwh⟩ := hw
  have hW : rWR M := hwA.2.1
  have hn5 : 0 ≤ M 106 1 ∧ M 106 1 ≤ 5 := by
    have q1 := hW.2.1
    have q2 := hW.1
    omega
  have hsm : 1 ≤ M 106 2 ∧ M 106 2 ≤ 6 := WFs_pos hwA.2.2
  have hwb : ∀ k : Nat, (k : Int) < M 106 2 → (1 ≤ M 106 (23 + k) ∧ M 106 (23 + k) ≤ 999) ∧ (0 ≤ M 106 (29 + k) ∧ M 106 (29 + k) ≤ 100) := fun k hk => WFs_b hwA.2.2 hk
  have hp9 : 1 ≤ M 106 0 ∧ M 106 0 ≤ 99 := hwA.1
  refine vv_iload_n X 1 rfl rfl dX9_best_0 ?_
  refine vv_callSI (As := [.int (zI x)]) (st := []) X 1 (c_X9_isShare l D cA had M x (by omega)) gX9_best_X9_isShare rfl (by decide +kernel) ⟨by decide, by decide⟩ (Nat.le_of_ble_eq_true rfl) ⟨by decide, by decide⟩ rfl rfl dX9_best_1 (fun z1 Mc1 q_1 => ?_)
  obtain ⟨e_z1, g_z1⟩ := q_1
  have g_z1 := g_z1.symm
  subst g_z1
  refine vv_if_eq (tgt := 16) X (by rw [e_z1]; split <;> omega) dX9_best_4 (by decide) (fun c_4 => ?_) (fun c_4 => ?_)
  · skip
    have hin : ¬ (0 ≤ x ∧ x ≤ 100) := fun q => by rw [if_pos q] at e_z1; omega
    refine vv_bipush (n := (-2)) X (by decide) dX9_best_16 ?_
    exact vv_iret X hm (⟨⟨fun _ => rfl, fun q => by first | exact absurd q.1 hin | exact absurd q.2 hin2⟩, KQ_rf M⟩) dX9_best_18
  · skip
    have hin : 0 ≤ x ∧ x ≤ 100 := Classical.byContradiction fun q => by rw [if_neg q] at e_z1; omega
    refine vv_iload_n X 2 rfl rfl dX9_best_7 ?_
    refine vv_iconst (n := 0) X dX9_best_8 ?_
    refine vv_iconst (n := 3) X dX9_best_9 ?_
    refine vv_callSI (As := [.int (zI w), .int (zI 0), .int (zI 3)]) (st := []) X 3 (c_X9_within l D cA had M w 0 3 (by omega) (by omega) (by omega)) gX9_best_X9_within rfl (by decide +kernel) ⟨by decide, by decide⟩ (Nat.le_of_ble_eq_true rfl) ⟨by decide, by decide⟩ rfl rfl dX9_best_10 (fun z10 Mc10 q_10 => ?_)
    obtain ⟨e_z10, g_z10⟩ := q_10
    have g_z10 := g_z10.symm
    subst g_z10
    refine vv_if_ne (tgt := 19) X (by rw [e_z10]; split <;> omega) dX9_best_13 (by decide) (fun c_13 => ?_) (fun c_13 => ?_)
    · skip
      have hin2 : 0 ≤ w ∧ w ≤ 3 := Classical.byContradiction fun q => by rw [if_neg q] at e_z10; omega
      refine vv_aload_n X 0 rfl rfl dX9_best_19 ?_
      refine vv_iload_n X 1 rfl rfl dX9_best_20 ?_
      refine vv_callVV (As := [.int (zI x)]) (st := []) (Nf := 20) X 1 (c_X9_takeEnvelope l D cA had M x (by omega) (hW)) gX9_best_X9_takeEnvelope rfl (by decide +kernel) ⟨by decide, by decide⟩ (Nat.le_of_ble_eq_true rfl) ⟨by decide, by decide⟩ rfl (by decide) sh_105 rfl rfl dX9_best_21 (fun Me qe => ?_)
      obtain ⟨lo, hi, hB, qe⟩ := qe
      have g1 : Me 105 10 = frA (sN (vA (aR M)) x lo hi) (sD lo hi) := by rw [qe]; rfl
      have g2 : Me 105 11 = frB (sN (vA (aR M)) x lo hi) (sD lo hi) := by rw [qe]; rfl
      have g3 : Me 105 12 = lo := by rw [qe]; rfl
      have g4 : Me 105 13 = hi := by rw [qe]; rfl
      have hK : KQ M Me := by rw [qe]; exact KQ_up (by decide) (by decide) (KQ_up (by decide) (by decide) (KQ_up (by decide) (by decide) (KQ_up (by decide) (by decide) (KQ_rf M))))
      have b2 := fr_b (a := sN (vA (aR M)) x lo hi) (b := sD lo hi) (A := 198000) (sN_b (fun y => vl_b hW.2) hin hB.1) (sD_pos hB.1)
      refine vv_iload_n X 2 rfl rfl dX9_best_24 ?_
      refine vv_if_ne (tgt := 35) X (by omega) dX9_best_25 (by decide) (fun c_25 => ?_) (fun c_25 => ?_)
      · skip
        refine vv_iload_n X 2 rfl rfl dX9_best_35 ?_
        refine vv_iconst (n := 1) X dX9_best_36 ?_
        refine vv_icmp_ne (tgt := 47) X (by omega) (by omega) dX9_best_37 (by decide) (fun c_37 => ?_) (fun c_37 => ?_)
        · skip
          refine vv_aload_n X 0 rfl rfl dX9_best_47 ?_
          refine vv_iload_n X 1 rfl rfl dX9_best_48 ?_
          refine vv_iload_n X 2 rfl rfl dX9_best_49 ?_
          refine vv_iconst (n := 2) X dX9_best_50 ?_
          refine vv_icmp_ne (tgt := 58) X (by omega) (by omega) dX9_best_51 (by decide) (fun c_51 => ?_) (fun c_51 => ?_)
          · skip
            refine vv_iconst (n := 0) X dX9_best_58 ?_
            refine vv_callVI (As := [.int (zI x), .int (zI 0)]) (st := []) (Nf := 20) X 2 (c_X9_weightOf l D cA had Me x 0 (by omega) (by omega) (by rw [g3, g4]; exact hB.1)) gX9_best_X9_weightOf rfl (by decide +kernel) ⟨by decide, by decide⟩ (Nat.le_of_ble_eq_true rfl) ⟨by decide, by decide⟩ rfl (by decide) sh_105 rfl rfl dX9_best_59 (fun z59 Mc59 q_59 => ?_)
            obtain ⟨e_z59, g_z59⟩ := q_59
            have g_z59 := g_z59.symm
            subst g_z59
            exact vv_iret X hm (⟨⟨fun q => absurd ⟨hin, hin2⟩ q, fun _ => ⟨lo, hi, hB, fun q => by first | (exfalso; omega) | exact g3, fun q => by first | (exfalso; omega) | exact g4, fun q => by first | (exfalso; omega) | (rw [if_pos (by omega), g3, g4] at e_z59; exact e_z59), fun q => by first | (exfalso; omega) | (rw [if_neg (by omega), g3, g4] at e_z59; exact e_z59)⟩⟩, hK⟩) dX9_best_62
          · skip
            refine vv_iconst (n := 1) X dX9_best_54 ?_
            refine vv_goto (tgt := 59) X (by decide) dX9_best_55 ?_
            refine vv_callVI (As := [.int (zI x), .int (zI 1)]) (st := []) (Nf := 20) X 2 (c_X9_weightOf l D cA had Me x 1 (by omega) (by omega) (by rw [g3, g4]; exact hB.1)) gX9_best_X9_weightOf rfl (by decide +kernel) ⟨by decide, by decide⟩ (Nat.le_of_ble_eq_true rfl) ⟨by decide, by decide⟩ rfl (by decide) sh_105 rfl rfl dX9_best_59 (fun z59 Mc59 q_59 => ?_)
            obtain ⟨e_z59, g_z59⟩ := q_59
            have g_z59 := g_z59.symm
            subst g_z59
            exact vv_iret X hm (⟨⟨fun q => absurd ⟨hin, hin2⟩ q, fun _ => ⟨lo, hi, hB, fun q => by first | (exfalso; omega) | exact g3, fun q => by first | (exfalso; omega) | exact g4, fun q => by first | (exfalso; omega) | (rw [if_pos (by omega), g3, g4] at e_z59; exact e_z59), fun q => by first | (exfalso; omega) | (rw [if_neg (by omega), g3, g4] at e_z59; exact e_z59)⟩⟩, hK⟩) dX9_best_62
        · skip
          refine vv_aload_n X 0 rfl rfl dX9_best_40 ?_
          refine vv_geti (Nf := 20) (ref := (TX9 13).1) (z := (Me 105 13)) X (by decide) sh_105 rfl 13 (by decide) u_X9_best_9 k_X9_best_94 rfl rfl (rfl) dX9_best_41 ?_
          refine vv_goto (tgt := 62) X (by decide) dX9_best_44 ?_
          exact vv_iret X hm (⟨⟨fun q => absurd ⟨hin, hin2⟩ q, fun _ => ⟨lo, hi, hB, fun q => by first | (exfalso; omega) | exact g3, fun q => by first | (exfalso; omega) | exact g4, fun q => by first | (exfalso; omega) | (rw [if_pos (by omega), g3, g4] at e_z59; exact e_z59), fun q => by first | (exfalso; omega) | (rw [if_neg (by omega), g3, g4] at e_z59; exact e_z59)⟩⟩, hK⟩) dX9_best_62
      · skip
        refine vv_aload_n X 0 rfl rfl dX9_best_28 ?_
        refine vv_geti (Nf := 20) (ref := (TX9 12).1) (z := (Me 105 12)) X (by decide) sh_105 rfl 12 (by decide) u_X9_best_9 k_X9_best_91 rfl rfl (rfl) dX9_best_29 ?_
        refine vv_goto (tgt := 62) X (by decide) dX9_best_32 ?_
        exact vv_iret X hm (⟨⟨fun q => absurd ⟨hin, hin2⟩ q, fun _ => ⟨lo, hi, hB, fun q => by first | (exfalso; omega) | exact g3, fun q => by first | (exfalso; omega) | exact g4, fun q => by first | (exfalso; omega) | (rw [if_pos (by omega), g3, g4] at e_z59; exact e_z59), fun q => by first | (exfalso; omega) | (rw [if_neg (by omega), g3, g4] at e_z59; exact e_z59)⟩⟩, hK⟩) dX9_best_62
    · skip
      have hin2 : ¬ (0 ≤ w ∧ w ≤ 3) := fun q => by rw [if_pos q] at e_z10; omega
      refine vv_bipush (n := (-2)) X (by decide) dX9_best_16 ?_
      exact vv_iret X hm (⟨⟨fun _ => rfl, fun q => by first | exact absurd q.1 hin | exact absurd q.2 hin2⟩, KQ_rf M⟩) dX9_best_18
theorem u_X9_mostGained_9 : ∀ w ∈ u_ws RX9 TX9 20, w ∈ wsX9_mostGained := by decide +kernel
theorem k_X9_mostGained_47 : Cond.fieldLink yX9_mostGained.cls 47 (TX9 10).1 (TX9 10).2.1 (TX9 10).2.2.1 ∈ wsX9_mostGained := by decide +kernel
theorem k_X9_mostGained_50 : Cond.fieldLink yX9_mostGained.cls 50 (TX9 11).1 (TX9 11).2.1 (TX9 11).2.2.1 ∈ wsX9_mostGained := by decide +kernel
set_option maxRecDepth 100000 in
set_option maxHeartbeats 4000000 in
theorem c_X9_mostGained (l : Launch) (D : va_G) {ad : Nat → Nat} (cA : Nat → ClassId) (had : adok ad) (M : Mem) (w : Int) (hw : -2147483648 ≤ w ∧ w ≤ 2147483647) (hw : RW M) : CtI l yX9_mostGained wsX9_mostGained 5 118 D ad cA [.ref (ad 105), .int (zI w)] M (fun z M1 => qMG w (aR M) z ∧ KQ M M1) := by
  refine CtI.of (cc := cX9_mostGained) (maxL := 7) (ret := (some .int)) had (by decide) rfl (Nat.le_of_ble_eq_true rfl) ?_
  intro p e s m args below meth c X hm
  show VV p l e { frames := 5, cells := 0, slots := 0, locals := 118 } s m args below meth c 7 D ad cA (Afr ad s.heap.size) 0 0 (QI below args s D ad cA (fun z M1 => qMG w (aR M) z ∧ KQ M M1)) M 0 [(0, .ref (ad 105)), (1, .int (zI w))] []
  have hw0 := hw
  obtain ⟨hwA, hHi, hwh⟩ := hw
  have hW : rWR M := hwA.2.1
  have hn5 : 0 ≤ M 106 1 ∧ M 106 1 ≤ 5 := by
    have q1 := hW.2.1
    have q2 := hW.1
    omega
  have hsm : 1 ≤ M 106 2 ∧ M 106 2 ≤ 6 := WFs_pos hwA.2.2
  have hwb : ∀ k : Nat, (k : Int) < M 106 2 → (1 ≤ M 106 (23 + k) ∧ M 106 (23 + k) ≤ 999) ∧ (0 ≤ M 106 (29 + k) ∧ M 106 (29 + k) ≤ 100) := fun k hk => WFs_b hwA.2.2 hk
  have hp9 : 1 ≤ M 106 0 ∧ M 106 0 ≤ 99 := hwA.1
  refine vv_iload_n X 1 rfl rfl dX9_mostGained_0 ?_
  refine vv_iconst (n := 0) X dX9_mostGained_1 ?_
  refine vv_iconst (n := 2) X dX9_mostGained_2 ?_
  refine vv_callSI (As := [.int (zI w), .int (zI 0), .int (zI 2)]) (st := []) X 3 (c_X9_within l D cA had M w 0 2 (by omega) (by omega) (by omega)) gX9_mostGained_X9_within rfl (by decide +kernel) ⟨by decide, by decide⟩ (Nat.le_of_ble_eq_true rfl) ⟨by decide, by decide⟩ rfl rfl dX9_mostGained_3 (fun z3 Mc3 q_3 => ?_)
  obtain ⟨e_z3, g_z3⟩ := q_3
  have g_z3 := g_z3.symm
  subst g_z3
  refine vv_if_ne (tgt := 12) X (by rw [e_z3]; split <;> omega) dX9_mostGained_6 (by decide) (fun c_6 => ?_) (fun c_6 => ?_)
  · skip
    have hin : 0 ≤ w ∧ w ≤ 2 := Classical.byContradiction fun q => by rw [if_neg q] at e_z3; omega
    have hvl : ∀ y : Int, -495 ≤ rvl M y ∧ rvl M y ≤ 990 := fun y => vl_b hW.2
    refine vv_bipush (n := (-6)) X (by decide) dX9_mostGained_12 ?_
    refine vv_istore_n (lv' := [(2, .int (zI (-6))), (0, .ref (ad 105)), (1, .int (zI w))]) X rfl (by decide) rfl dX9_mostGained_14 ?_
    refine vv_iconst (n := (-1)) X dX9_mostGained_15 ?_
    refine vv_istore_n (lv' := [(3, .int (zI (-1))), (2, .int (zI (-6))), (0, .ref (ad 105)), (1, .int (zI w))]) X rfl (by decide) rfl dX9_mostGained_16 ?_
    refine vv_iconst (n := 1) X dX9_mostGained_17 ?_
    refine vv_istore (lv' := [(4, .int (zI 1)), (3, .int (zI (-1))), (2, .int (zI (-6))), (0, .ref (ad 105)), (1, .int (zI w))]) X (by decide) rfl dX9_mostGained_18 ?_
    refine vv_iconst (n := 1) X dX9_mostGained_20 ?_
    refine vv_istore (lv' := [(5, .int (zI 1)), (4, .int (zI 1)), (3, .int (zI (-1))), (2, .int (zI (-6))), (0, .ref (ad 105)), (1, .int (zI w))]) X (by decide) rfl dX9_mostGained_21 ?_
    have loop_23 : ∀ (n : Nat) (M_23 : Mem) (f : Int) (a3 : Int) (b4 : Int) (x : Int), 1 ≤ x ∧ x ≤ 100 → KQ M M_23 → ((x = 1 ∧ f = -6 ∧ a3 = -1 ∧ b4 = 1) ∨ (1 < x ∧ MGR (rvl M) x f a3 b4)) → (100 - x).toNat < n → VV p l e { frames := 5, cells := 0, slots := 0, locals := 118 } s m args below meth c 7 D ad cA (Afr ad s.heap.size) 0 0 (QI below args s D ad cA (fun z M1 => qMG w (aR M) z ∧ KQ M M1)) M_23 23 [(0, .ref (ad 105)), (1, .int (zI w)), (2, .int (zI f)), (3, .int (zI a3)), (4, .int (zI b4)), (5, .int (zI x))] [] := by
      intro n
      induction n with
      | zero => intro M_23 f a3 b4 x hx hE hI hn; exact absurd hn (Nat.not_lt_zero _)
      | succ n ih_23 =>
        intro M_23 f a3 b4 x hx hE hI hn
        have e106 : M_23 106 = M 106 := hE.1 106 (by decide)
        have hWM : rWR M_23 := by unfold rWR rL rG rP rB; rw [e106]; exact hW
        have evM : rvl M_23 = rvl M := by unfold rvl rL rG rP rB; rw [e106]
        have hfb : (-1 ≤ a3 ∧ a3 ≤ 396000) ∧ (0 < b4 ∧ b4 ≤ 200) ∧ (-6 ≤ f ∧ f ≤ 100) := by
          rcases hI with ⟨_, i2, i3, i4⟩ | ⟨_, i2⟩
          · omega
          · have q1 := MGR_b hvl i2 (by omega)
            have q2 := i2.1
            omega
        refine vv_iload X 5 rfl dX9_mostGained_23 ?_
        refine vv_bipush (n := 100) X (by decide) dX9_mostGained_25 ?_
        refine vv_icmp_ge (tgt := 86) X (by omega) (by omega) dX9_mostGained_27 (by decide) (fun c_27 => ?_) (fun c_27 => ?_)
        · skip
          have hI2 : MGR (rvl M) 100 f a3 b4 := by
            have e : x = 100 := by omega
            rcases hI with ⟨i1, _⟩ | ⟨_, i2⟩
            · omega
            · rw [e] at i2
              exact i2
          have hmg := MGR_end hI2
          obtain ⟨_, ⟨lo, hi, hB, ha3, hb4⟩, _⟩ := hmg
          have hks := eN_b hvl (show 0 ≤ f ∧ f ≤ 100 by have := hI2.1; omega) hB.1
          have hlow := fr_low (a := gN (rvl M) f lo hi) (b := eD f lo hi) hks.2.1.1
          rw [← ha3, ← hb4] at hlow
          refine vv_aload_n X 0 rfl rfl dX9_mostGained_86 ?_
          refine vv_iload_n X 3 rfl rfl dX9_mostGained_87 ?_
          refine vv_iload X 4 rfl dX9_mostGained_88 ?_
          refine vv_callVV (As := [.int (zI a3), .int (zI b4)]) (st := []) (Nf := 20) X 2 (c_X9_takeFraction l D cA had M_23 a3 b4 (by omega) (by omega) (by omega)) gX9_mostGained_X9_takeFraction rfl (by decide +kernel) ⟨by decide, by decide⟩ (Nat.le_of_ble_eq_true rfl) ⟨by decide, by decide⟩ rfl (by decide) sh_105 rfl rfl dX9_mostGained_90 (fun Mf qf => ?_)
          have hK : KQ M Mf := by rw [qf]; exact KQ_up (by decide) (by decide) (KQ_up (by decide) (by decide) hE)
          have g1 : Mf 105 10 = a3 := by rw [qf, up2_m _ _ _ (by decide), up2_s]; exact hlow.1
          have g2 : Mf 105 11 = b4 := by rw [qf, up2_s]; exact hlow.2
          refine vv_iload_n X 1 rfl rfl dX9_mostGained_93 ?_
          refine vv_if_ne (tgt := 101) X (by omega) dX9_mostGained_94 (by decide) (fun c_94 => ?_) (fun c_94 => ?_)
          · skip
            refine vv_iload_n X 1 rfl rfl dX9_mostGained_101 ?_
            refine vv_iconst (n := 1) X dX9_mostGained_102 ?_
            refine vv_icmp_ne (tgt := 113) X (by omega) (by omega) dX9_mostGained_103 (by decide) (fun c_103 => ?_) (fun c_103 => ?_)
            · skip
              refine vv_aload_n X 0 rfl rfl dX9_mostGained_113 ?_
              refine vv_geti (Nf := 20) (ref := (TX9 11).1) (z := (Mf 105 11)) X (by decide) sh_105 rfl 11 (by decide) u_X9_mostGained_9 k_X9_mostGained_50 rfl rfl (rfl) dX9_mostGained_114 ?_
              exact vv_iret X hm (⟨⟨fun q => absurd hin q, fun _ => ⟨f, a3, b4, MGR_end hI2, fun q => by first | (exfalso; omega) | rfl, fun q => by first | (exfalso; omega) | exact g1, fun q => by first | (exfalso; omega) | exact g2⟩⟩, hK⟩) dX9_mostGained_117
            · skip
              refine vv_aload_n X 0 rfl rfl dX9_mostGained_106 ?_
              refine vv_geti (Nf := 20) (ref := (TX9 10).1) (z := (Mf 105 10)) X (by decide) sh_105 rfl 10 (by decide) u_X9_mostGained_9 k_X9_mostGained_47 rfl rfl (rfl) dX9_mostGained_107 ?_
              refine vv_goto (tgt := 117) X (by decide) dX9_mostGained_110 ?_
              exact vv_iret X hm (⟨⟨fun q => absurd hin q, fun _ => ⟨f, a3, b4, MGR_end hI2, fun q => by first | (exfalso; omega) | rfl, fun q => by first | (exfalso; omega) | exact g1, fun q => by first | (exfalso; omega) | exact g2⟩⟩, hK⟩) dX9_mostGained_117
          · skip
            refine vv_iload_n X 2 rfl rfl dX9_mostGained_97 ?_
            refine vv_goto (tgt := 117) X (by decide) dX9_mostGained_98 ?_
            exact vv_iret X hm (⟨⟨fun q => absurd hin q, fun _ => ⟨f, a3, b4, MGR_end hI2, fun q => by first | (exfalso; omega) | rfl, fun q => by first | (exfalso; omega) | exact g1, fun q => by first | (exfalso; omega) | exact g2⟩⟩, hK⟩) dX9_mostGained_117
        · skip
          refine vv_aload_n X 0 rfl rfl dX9_mostGained_30 ?_
          refine vv_iload X 5 rfl dX9_mostGained_31 ?_
          refine vv_callVV (As := [.int (zI x)]) (st := []) (Nf := 20) X 1 (c_X9_takeEnvelope l D cA had M_23 x (by omega) (hWM)) gX9_mostGained_X9_takeEnvelope rfl (by decide +kernel) ⟨by decide, by decide⟩ (Nat.le_of_ble_eq_true rfl) ⟨by decide, by decide⟩ rfl (by decide) sh_105 rfl rfl dX9_mostGained_33 (fun Me qe => ?_)
          obtain ⟨lo, hi, hB, qe⟩ := qe
          rw [evM] at hB qe
          have fe := fr_env (v := rvl M) hB.1
          have hks := eN_b hvl (show 0 ≤ x ∧ x ≤ 100 by omega) hB.1
          have fs := fr_sub (a := eN (rvl M) x lo hi) (b := eD x lo hi) (k := rvl M x) hks.2.1.1
          have gb := gain_b hvl (show 1 ≤ x ∧ x ≤ 99 by omega) hB
          have g1 : Me 105 10 = frA (eN (rvl M) x lo hi) (eD x lo hi) := by rw [fe.1, qe]; rfl
          have g2 : Me 105 11 = frB (gN (rvl M) x lo hi) (eD x lo hi) := by
            show _ = frB (eN (rvl M) x lo hi - eD x lo hi * rvl M x) (eD x lo hi)
            rw [fs.2, fe.2, qe]
            rfl
          have e106e : Me 106 = M 106 := by rw [qe]; exact hE.1 106 (by decide)
          have hKe : KQ M Me := by rw [qe]; exact KQ_up (by decide) (by decide) (KQ_up (by decide) (by decide) (KQ_up (by decide) (by decide) (KQ_up (by decide) (by decide) hE)))
          have hWe : rWR Me := by unfold rWR rL rG rP rB; rw [e106e]; exact hW
          have eve : rvl Me = rvl M := by unfold rvl rL rG rP rB; rw [e106e]
          refine vv_aload_n X 0 rfl rfl dX9_mostGained_36 ?_
          refine vv_geti (Nf := 20) (ref := (TX9 10).1) (z := (Me 105 10)) X (by decide) sh_105 rfl 10 (by decide) u_X9_mostGained_9 k_X9_mostGained_47 rfl rfl (rfl) dX9_mostGained_37 ?_
          refine vv_aload_n X 0 rfl rfl dX9_mostGained_40 ?_
          refine vv_iload X 5 rfl dX9_mostGained_41 ?_
          refine vv_callVI (As := [.int (zI x)]) (st := [.int (zI (Me 105 10))]) (Nf := 20) X 1 (c_X9_valueAt l D cA had Me x (by omega) (hWe)) gX9_mostGained_X9_valueAt rfl (by decide +kernel) ⟨by decide, by decide⟩ (Nat.le_of_ble_eq_true rfl) ⟨by decide, by decide⟩ rfl (by decide) sh_105 rfl rfl dX9_mostGained_43 (fun z43 Mc43 q_43 => ?_)
          obtain ⟨e_z43, g_z43⟩ := q_43
          have g_z43 := g_z43.symm
          subst g_z43
          rw [eve] at e_z43
          have hm1 : Me 105 10 - z43 * Me 105 11 = frA (gN (rvl M) x lo hi) (eD x lo hi) := by
            rw [g1, g2, e_z43]
            show _ = frA (eN (rvl M) x lo hi - eD x lo hi * rvl M x) (eD x lo hi)
            rw [fs.1]
            show _ - rvl M x * frB (eN (rvl M) x lo hi - eD x lo hi * rvl M x) (eD x lo hi) = _
            rw [fs.2, Int.mul_comm]
          have b1 := fr_b (a := eN (rvl M) x lo hi) (b := eD x lo hi) (A := 198000) hks.1 hks.2.1.1
          have hz43 := hvl x
          have m1 := mulSS (a := z43) (A := 990) (b := Me 105 11) (B := 200) (by omega) (by omega)
          refine vv_aload_n X 0 rfl rfl dX9_mostGained_46 ?_
          refine vv_geti (Nf := 20) (ref := (TX9 11).1) (z := (Me 105 11)) X (by decide) sh_105 rfl 11 (by decide) u_X9_mostGained_9 k_X9_mostGained_50 rfl rfl (rfl) dX9_mostGained_47 ?_
          refine vv_imul X dX9_mostGained_50 ?_
          refine vv_isub X dX9_mostGained_51 ?_
          refine vv_istore (lv' := [(6, .int (zI ((Me 105 10) - (z43 * (Me 105 11))))), (0, .ref (ad 105)), (1, .int (zI w)), (2, .int (zI f)), (3, .int (zI a3)), (4, .int (zI b4)), (5, .int (zI x))]) X (by decide) rfl dX9_mostGained_52 ?_
          rw [hm1]
          have m2 := mulSS (a := frA (gN (rvl M) x lo hi) (eD x lo hi)) (A := 396000) (b := b4) (B := 200) (by omega) (by omega)
          have m3 := mulSS (a := a3) (A := 396000) (b := Me 105 11) (B := 200) (by omega) (by omega)
          refine vv_iload X 0 rfl dX9_mostGained_54 ?_
          refine vv_iload X 5 rfl dX9_mostGained_56 ?_
          refine vv_imul X dX9_mostGained_58 ?_
          refine vv_iload_n X 4 rfl rfl dX9_mostGained_59 ?_
          refine vv_aload_n X 1 rfl rfl dX9_mostGained_60 ?_
          refine vv_geti (Nf := 20) (ref := (TX9 11).1) (z := (Me 105 11)) X (by decide) sh_105 rfl 11 (by decide) u_X9_mostGained_9 k_X9_mostGained_50 rfl rfl (rfl) dX9_mostGained_61 ?_
          refine vv_imul X dX9_mostGained_64 ?_
          refine vv_icmp_le (tgt := 80) X (by omega) (by omega) dX9_mostGained_65 (by decide) (fun c_65 => ?_) (fun c_65 => ?_)
          · skip
            refine vv_iinc (lv' := [(5, .int (zI (x + 1))), (6, .int (zI (frA (gN (rvl M) x lo hi) (eD x lo hi)))), (0, .ref (ad 105)), (1, .int (zI w)), (2, .int (zI f)), (3, .int (zI a3)), (4, .int (zI b4))]) X 6 rfl (by decide) rfl dX9_mostGained_80 ?_
            refine vv_goto (tgt := 23) X (by decide) dX9_mostGained_83 ?_
            refine vv_sub (lv' := [(0, .ref (ad 105)), (1, .int (zI w)), (2, .int (zI f)), (3, .int (zI a3)), (4, .int (zI b4)), (5, .int (zI (x + 1)))]) [2, 3, 4, 5, 6, 0] rfl ?_
            exact ih_23 Me f a3 b4 (x + 1) (by omega) hKe (Or.inr ⟨by omega, by
              rw [g2] at *
              rcases hI with ⟨i1, i2, i3, i4⟩ | ⟨_, i2⟩
              · exfalso
                rw [i3, i4] at c_65
                omega
              · exact MGR_no hvl i2 (by omega) hB (by omega)⟩) (by omega)
          · skip
            refine vv_iload X 6 rfl dX9_mostGained_68 ?_
            refine vv_istore_n (lv' := [(2, .int (zI x)), (6, .int (zI (frA (gN (rvl M) x lo hi) (eD x lo hi)))), (0, .ref (ad 105)), (1, .int (zI w)), (3, .int (zI a3)), (4, .int (zI b4)), (5, .int (zI x))]) X rfl (by decide) rfl dX9_mostGained_70 ?_
            refine vv_iload X 1 rfl dX9_mostGained_71 ?_
            refine vv_istore_n (lv' := [(3, .int (zI (frA (gN (rvl M) x lo hi) (eD x lo hi)))), (2, .int (zI x)), (6, .int (zI (frA (gN (rvl M) x lo hi) (eD x lo hi)))), (0, .ref (ad 105)), (1, .int (zI w)), (4, .int (zI b4)), (5, .int (zI x))]) X rfl (by decide) rfl dX9_mostGained_73 ?_
            refine vv_aload_n X 3 rfl rfl dX9_mostGained_74 ?_
            refine vv_geti (Nf := 20) (ref := (TX9 11).1) (z := (Me 105 11)) X (by decide) sh_105 rfl 11 (by decide) u_X9_mostGained_9 k_X9_mostGained_50 rfl rfl (rfl) dX9_mostGained_75 ?_
            refine vv_istore (lv' := [(4, .int (zI (Me 105 11))), (3, .int (zI (frA (gN (rvl M) x lo hi) (eD x lo hi)))), (2, .int (zI x)), (6, .int (zI (frA (gN (rvl M) x lo hi) (eD x lo hi)))), (0, .ref (ad 105)), (1, .int (zI w)), (5, .int (zI x))]) X (by decide) rfl dX9_mostGained_78 ?_
            refine vv_iinc (lv' := [(5, .int (zI (x + 1))), (4, .int (zI (Me 105 11))), (3, .int (zI (frA (gN (rvl M) x lo hi) (eD x lo hi)))), (2, .int (zI x)), (6, .int (zI (frA (gN (rvl M) x lo hi) (eD x lo hi)))), (0, .ref (ad 105)), (1, .int (zI w))]) X 6 rfl (by decide) rfl dX9_mostGained_80 ?_
            refine vv_goto (tgt := 23) X (by decide) dX9_mostGained_83 ?_
            refine vv_sub (lv' := [(0, .ref (ad 105)), (1, .int (zI w)), (2, .int (zI x)), (3, .int (zI (frA (gN (rvl M) x lo hi) (eD x lo hi)))), (4, .int (zI (Me 105 11))), (5, .int (zI (x + 1)))]) [5, 6, 3, 2, 1, 0] rfl ?_
            exact ih_23 Me x (frA (gN (rvl M) x lo hi) (eD x lo hi)) (Me 105 11) (x + 1) (by omega) hKe (Or.inr ⟨by omega, by
              rw [g2] at *
              rcases hI with ⟨i1, i2, i3, i4⟩ | ⟨_, i2⟩
              · rw [i1] at hB ⊢
                exact MGR_first hvl hB
              · exact MGR_yes hvl i2 (by omega) hB (by omega)⟩) (by omega)
    refine vv_sub (lv' := [(0, .ref (ad 105)), (1, .int (zI w)), (2, .int (zI (-6))), (3, .int (zI (-1))), (4, .int (zI 1)), (5, .int (zI 1))]) [4, 5, 3, 2, 1, 0] rfl ?_
    exact loop_23 _ M (-6) (-1) 1 1 (by omega) (KQ_rf M) (Or.inl ⟨rfl, rfl, rfl, rfl⟩) (Nat.lt_succ_self _)
  · skip
    have hin : ¬ (0 ≤ w ∧ w ≤ 2) := fun q => by rw [if_pos q] at e_z3; omega
    refine vv_bipush (n := (-2)) X (by decide) dX9_mostGained_9 ?_
    exact vv_iret X hm (⟨⟨fun _ => rfl, fun q => absurd q hin⟩, KQ_rf M⟩) dX9_mostGained_11
theorem u_X9_wipe_9 : ∀ w ∈ u_ws RX9 TX9 20, w ∈ wsX9_wipe := by decide +kernel
theorem k_X9_wipe_150 : Cond.fieldLink yX9_wipe.cls 150 (TX9 6).1 (TX9 6).2.1 (TX9 6).2.2.1 ∈ wsX9_wipe := by decide +kernel
set_option maxRecDepth 100000 in
set_option maxHeartbeats 4000000 in
theorem c_X9_wipe (l : Launch) (D : va_G) {ad : Nat → Nat} (cA : Nat → ClassId) (had : adok ad) (M : Mem) : CtI l yX9_wipe wsX9_wipe 0 0 D ad cA [.ref (ad 105)] M (fun z M1 => z = M 105 6 ∧ M1 = up2 M 105 6 0) := by
  refine CtI.of (cc := cX9_wipe) (maxL := 2) (ret := (some .int)) had (by decide) rfl (Nat.le_of_ble_eq_true rfl) ?_
  intro p e s m args below meth c X hm
  show VV p l e { frames := 0, cells := 0, slots := 0, locals := 0 } s m args below meth c 2 D ad cA (Afr ad s.heap.size) 0 0 (QI below args s D ad cA (fun z M1 => z = M 105 6 ∧ M1 = up2 M 105 6 0)) M 0 [(0, .ref (ad 105))] []
  refine vv_aload_n X 0 rfl rfl dX9_wipe_0 ?_
  refine vv_geti (Nf := 20) (ref := (TX9 6).1) (z := (M 105 6)) X (by decide) sh_105 rfl 6 (by decide) u_X9_wipe_9 k_X9_wipe_150 rfl rfl (rfl) dX9_wipe_1 ?_
  refine vv_istore_n (lv' := [(1, .int (zI (M 105 6))), (0, .ref (ad 105))]) X rfl (by decide) rfl dX9_wipe_4 ?_
  refine vv_aload_n X 1 rfl rfl dX9_wipe_5 ?_
  refine vv_iconst (n := 0) X dX9_wipe_6 ?_
  refine vv_puti (Nf := 20) (ref := (TX9 6).1) X (by decide) sh_105 rfl 6 (by decide) u_X9_wipe_9 k_X9_wipe_150 rfl tyX9_ok nmX9 rfl (by decide +kernel) rfl rfl dX9_wipe_7 ?_
  refine vv_iload_n X 0 rfl rfl dX9_wipe_10 ?_
  exact vv_iret X hm (⟨rfl, rfl⟩) dX9_wipe_11
theorem u_X9_undo_9 : ∀ w ∈ u_ws RX9 TX9 20, w ∈ wsX9_undo := by decide +kernel
theorem k_X9_undo_7 : Cond.fieldLink yX9_undo.cls 7 (TX9 0).1 (TX9 0).2.1 (TX9 0).2.2.1 ∈ wsX9_undo := by decide +kernel
theorem k_X9_undo_13 : Cond.fieldLink yX9_undo.cls 13 (TX9 1).1 (TX9 1).2.1 (TX9 1).2.2.1 ∈ wsX9_undo := by decide +kernel
theorem k_X9_undo_35 : Cond.fieldLink yX9_undo.cls 35 (TX9 2).1 (TX9 2).2.1 (TX9 2).2.2.1 ∈ wsX9_undo := by decide +kernel
set_option maxRecDepth 100000 in
set_option maxHeartbeats 4000000 in
theorem c_X9_undo (l : Launch) (D : va_G) {ad : Nat → Nat} (cA : Nat → ClassId) (had : adok ad) (M : Mem)  (hw : RW M) : CtI l yX9_undo wsX9_undo 1 24 D ad cA [.ref (ad 105)] M (fun z M1 => (M 105 2 = 0 → z = -5 ∧ M1 = M) ∧ (0 < M 105 2 → z = M1 105 2 ∧ POP (M 105 2) (hvR M) (aR M1) (M1 105 2) (hvR M1) ∧ HRi M1 ∧ KR (M 105 6) M M1)) := by
  refine CtI.of (cc := cX9_undo) (maxL := 1) (ret := (some .int)) had (by decide) rfl (Nat.le_of_ble_eq_true rfl) ?_
  intro p e s m args below meth c X hm
  show VV p l e { frames := 1, cells := 0, slots := 0, locals := 24 } s m args below meth c 1 D ad cA (Afr ad s.heap.size) 0 0 (QI below args s D ad cA (fun z M1 => (M 105 2 = 0 → z = -5 ∧ M1 = M) ∧ (0 < M 105 2 → z = M1 105 2 ∧ POP (M 105 2) (hvR M) (aR M1) (M1 105 2) (hvR M1) ∧ HRi M1 ∧ KR (M 105 6) M M1))) M 0 [(0, .ref (ad 105))] []
  have hw0 := hw
  obtain ⟨hwA, hHi, hwh⟩ := hw
  have hW : rWR M := hwA.2.1
  have hn5 : 0 ≤ M 106 1 ∧ M 106 1 ≤ 5 := by
    have q1 := hW.2.1
    have q2 := hW.1
    omega
  have hsm : 1 ≤ M 106 2 ∧ M 106 2 ≤ 6 := WFs_pos hwA.2.2
  have hwb : ∀ k : Nat, (k : Int) < M 106 2 → (1 ≤ M 106 (23 + k) ∧ M 106 (23 + k) ≤ 999) ∧ (0 ≤ M 106 (29 + k) ∧ M 106 (29 + k) ≤ 100) := fun k hk => WFs_b hwA.2.2 hk
  have hp9 : 1 ≤ M 106 0 ∧ M 106 0 ≤ 99 := hwA.1
  unfold HRi at hHi
  refine vv_aload_n X 0 rfl rfl dX9_undo_0 ?_
  refine vv_geti (Nf := 20) (ref := (TX9 2).1) (z := (M 105 2)) X (by decide) sh_105 rfl 2 (by decide) u_X9_undo_9 k_X9_undo_35 rfl rfl (rfl) dX9_undo_1 ?_
  refine vv_if_ne (tgt := 10) X (by omega) dX9_undo_4 (by decide) (fun c_4 => ?_) (fun c_4 => ?_)
  · skip
    refine vv_aload_n X 0 rfl rfl dX9_undo_10 ?_
    refine vv_dup X rfl dX9_undo_11 ?_
    refine vv_geti (Nf := 20) (ref := (TX9 2).1) (z := (M 105 2)) X (by decide) sh_105 rfl 2 (by decide) u_X9_undo_9 k_X9_undo_35 rfl rfl (rfl) dX9_undo_12 ?_
    refine vv_iconst (n := 1) X dX9_undo_15 ?_
    refine vv_isub X dX9_undo_16 ?_
    refine vv_puti (Nf := 20) (ref := (TX9 2).1) X (by decide) sh_105 rfl 2 (by decide) u_X9_undo_9 k_X9_undo_35 rfl tyX9_ok nmX9 rfl (by decide +kernel) rfl rfl dX9_undo_17 ?_
    refine vv_aload_n X 0 rfl rfl dX9_undo_20 ?_
    refine vv_getr (Nf := 20) (ref := (TX9 1).1) X (by decide) sh_105 rfl 1 (by decide) u_X9_undo_9 k_X9_undo_13 rfl rfl dX9_undo_21 ?_
    refine vv_aload_n X 0 rfl rfl dX9_undo_24 ?_
    refine vv_geti (Nf := 20) (ref := (TX9 2).1) (z := ((M 105 2) - 1)) X (by decide) sh_105 rfl 2 (by decide) u_X9_undo_9 k_X9_undo_35 rfl rfl (rfl) dX9_undo_25 ?_
    refine vv_bipush (n := 35) X (by decide) dX9_undo_28 ?_
    refine vv_imul X dX9_undo_30 ?_
    refine vv_aload_n X 0 rfl rfl dX9_undo_31 ?_
    refine vv_getr (Nf := 20) (ref := (TX9 0).1) X (by decide) sh_105 rfl 0 (by decide) u_X9_undo_9 k_X9_undo_7 rfl rfl dX9_undo_32 ?_
    refine vv_iconst (n := 0) X dX9_undo_35 ?_
    refine vv_callSV (As := [.ref (ad 107), .int (zI (((M 105 2) - 1) * 35)), .ref (ad 106), .int (zI 0)]) (st := []) X 4 (c_X9_moves_107_106 l D cA had (up2 M 105 2 ((M 105 2) - 1)) (((M 105 2) - 1) * 35) 0 (by omega) (by omega)) gX9_undo_X9_moves rfl (by decide +kernel) ⟨by decide, by decide⟩ (Nat.le_of_ble_eq_true rfl) ⟨by decide, by decide⟩ rfl rfl dX9_undo_36 (fun Mv qv => ?_)
    refine vv_aload_n X 0 rfl rfl dX9_undo_39 ?_
    refine vv_geti (Nf := 20) (ref := (TX9 2).1) (z := (Mv 105 2)) X (by decide) sh_105 rfl 2 (by decide) u_X9_undo_9 k_X9_undo_35 rfl rfl (rfl) dX9_undo_40 ?_
    exact vv_iret X hm (by
      refine ⟨fun q => by omega, fun q => ?_⟩
      have e2 : Mv 105 2 = M 105 2 - 1 := by rw [qv]; rfl
      have e6 : Mv 105 6 = M 105 6 := by rw [qv]; rfl
      have e107 : Mv 107 = M 107 := by rw [qv, stc_n _ _ (by decide), up2_n _ _ _ (by decide)]
      have e106 : ∀ t, t < 35 → M 107 (35 * ((M 105 2).toNat - 1 - 0) + t) = Mv 106 (0 + t) := fun t ht => by
        rw [qv, stc_s, if_pos (by omega), up2_n _ _ _ (by decide)]
        exact congrArg (M 107) (by omega)
      refine ⟨rfl, ⟨e2, eqA_tr (vR_sh e106 (hwh 0 (by omega))) (eqA_sy (aR_v Mv)), fun i hi => ?_⟩, by unfold HRi; rw [e2]; omega, fun a ha => ?_, e6⟩
      · show eqA (vR (M 107) (35 * ((M 105 2).toNat - 1 - (i + 1)))) (vR (Mv 107) (35 * ((Mv 105 2).toNat - 1 - i)))
        rw [e107, e2, show (M 105 2 - 1).toNat - 1 - i = (M 105 2).toNat - 1 - (i + 1) by omega]
        exact eqA_rf _
      · rw [qv, stc_n _ _ (by omega), up2_n _ _ _ (by omega)]) dX9_undo_43
  · skip
    refine vv_bipush (n := (-5)) X (by decide) dX9_undo_7 ?_
    exact vv_iret X hm (⟨fun _ => ⟨rfl, rfl⟩, fun q => by omega⟩) dX9_undo_9
theorem u_X9_save_9 : ∀ w ∈ u_ws RX9 TX9 20, w ∈ wsX9_save := by decide +kernel
theorem k_X9_save_7 : Cond.fieldLink yX9_save.cls 7 (TX9 0).1 (TX9 0).2.1 (TX9 0).2.2.1 ∈ wsX9_save := by decide +kernel
theorem k_X9_save_16 : Cond.fieldLink yX9_save.cls 16 (TX9 3).1 (TX9 3).2.1 (TX9 3).2.2.1 ∈ wsX9_save := by decide +kernel
theorem k_X9_save_19 : Cond.fieldLink yX9_save.cls 19 (TX9 4).1 (TX9 4).2.1 (TX9 4).2.2.1 ∈ wsX9_save := by decide +kernel
set_option maxRecDepth 100000 in
set_option maxHeartbeats 4000000 in
theorem c_X9_save (l : Launch) (D : va_G) {ad : Nat → Nat} (cA : Nat → ClassId) (had : adok ad) (M : Mem) (x : Int) (hx : -2147483648 ≤ x ∧ x ≤ 2147483647) : CtI l yX9_save wsX9_save 1 24 D ad cA [.ref (ad 105), .int (zI x)] M (fun z M1 => (¬ (0 ≤ x ∧ x < 2) → z = -2 ∧ M1 = M) ∧ (0 ≤ x ∧ x < 2 → z = M 106 0 ∧ eqx M M1 [108, 109] ∧ M1 109 = uz (M 109) x.toNat 1 ∧ ∀ j : Nat, M1 108 j = if 35 * x ≤ (j : Int) ∧ (j : Int) < 35 * x + 35 then M 106 ((j : Int) - 35 * x).toNat else M 108 j)) := by
  refine CtI.of (cc := cX9_save) (maxL := 2) (ret := (some .int)) had (by decide) rfl (Nat.le_of_ble_eq_true rfl) ?_
  intro p e s m args below meth c X hm
  show VV p l e { frames := 1, cells := 0, slots := 0, locals := 24 } s m args below meth c 2 D ad cA (Afr ad s.heap.size) 0 0 (QI below args s D ad cA (fun z M1 => (¬ (0 ≤ x ∧ x < 2) → z = -2 ∧ M1 = M) ∧ (0 ≤ x ∧ x < 2 → z = M 106 0 ∧ eqx M M1 [108, 109] ∧ M1 109 = uz (M 109) x.toNat 1 ∧ ∀ j : Nat, M1 108 j = if 35 * x ≤ (j : Int) ∧ (j : Int) < 35 * x + 35 then M 106 ((j : Int) - 35 * x).toNat else M 108 j))) M 0 [(0, .ref (ad 105)), (1, .int (zI x))] []
  refine vv_iload_n X 1 rfl rfl dX9_save_0 ?_
  refine vv_iconst (n := 0) X dX9_save_1 ?_
  refine vv_iconst (n := 1) X dX9_save_2 ?_
  refine vv_callSI (As := [.int (zI x), .int (zI 0), .int (zI 1)]) (st := []) X 3 (c_X9_within l D cA had M x 0 1 (by omega) (by omega) (by omega)) gX9_save_X9_within rfl (by decide +kernel) ⟨by decide, by decide⟩ (Nat.le_of_ble_eq_true rfl) ⟨by decide, by decide⟩ rfl rfl dX9_save_3 (fun z3 Mc3 q_3 => ?_)
  obtain ⟨e_z3, g_z3⟩ := q_3
  have g_z3 := g_z3.symm
  subst g_z3
  refine vv_if_ne (tgt := 12) X (by rw [e_z3]; split <;> omega) dX9_save_6 (by decide) (fun c_6 => ?_) (fun c_6 => ?_)
  · skip
    have hin : 0 ≤ x ∧ x ≤ 1 := Classical.byContradiction fun q => by rw [if_neg q] at e_z3; omega
    refine vv_aload_n X 0 rfl rfl dX9_save_12 ?_
    refine vv_getr (Nf := 20) (ref := (TX9 0).1) X (by decide) sh_105 rfl 0 (by decide) u_X9_save_9 k_X9_save_7 rfl rfl dX9_save_13 ?_
    refine vv_iconst (n := 0) X dX9_save_16 ?_
    refine vv_aload_n X 0 rfl rfl dX9_save_17 ?_
    refine vv_getr (Nf := 20) (ref := (TX9 3).1) X (by decide) sh_105 rfl 3 (by decide) u_X9_save_9 k_X9_save_16 rfl rfl dX9_save_18 ?_
    refine vv_bipush (n := 35) X (by decide) dX9_save_21 ?_
    refine vv_iload_n X 1 rfl rfl dX9_save_23 ?_
    refine vv_imul X dX9_save_24 ?_
    refine vv_callSV (As := [.ref (ad 106), .int (zI 0), .ref (ad 108), .int (zI (35 * x))]) (st := []) X 4 (c_X9_moves_106_108 l D cA had M 0 (35 * x) (by omega) (by omega)) gX9_save_X9_moves rfl (by decide +kernel) ⟨by decide, by decide⟩ (Nat.le_of_ble_eq_true rfl) ⟨by decide, by decide⟩ rfl rfl dX9_save_25 (fun Mv qv => ?_)
    refine vv_aload_n X 0 rfl rfl dX9_save_28 ?_
    refine vv_getr (Nf := 20) (ref := (TX9 4).1) X (by decide) sh_105 rfl 4 (by decide) u_X9_save_9 k_X9_save_19 rfl rfl dX9_save_29 ?_
    refine vv_iload_n X 1 rfl rfl dX9_save_32 ?_
    refine vv_iconst (n := 1) X dX9_save_33 ?_
    refine vv_iast (ix := (Int.toNat x)) X (by decide) sh_109 (by decide) (by omega) (rfl) dX9_save_34 ?_
    refine vv_aload_n X 0 rfl rfl dX9_save_35 ?_
    refine vv_getr (Nf := 20) (ref := (TX9 0).1) X (by decide) sh_105 rfl 0 (by decide) u_X9_save_9 k_X9_save_7 rfl rfl dX9_save_36 ?_
    refine vv_iconst (n := 0) X dX9_save_39 ?_
    refine vv_iald (z := (Mv 106 0)) X (by decide) sh_106 (by decide) (by omega) (rfl) dX9_save_40 ?_
    exact vv_iret X hm (by
      refine ⟨fun q => absurd (show 0 ≤ x ∧ x < 2 by omega) q, fun _ => ⟨?_, ?_, ?_, fun j => ?_⟩⟩
      · rw [qv]
        rfl
      · rw [qv]
        exact eqx_up _ _ (eqx_stc _ (eqx_rf _ _) (by decide)) (by decide)
      · rw [qv]
        rfl
      · rw [up2_n _ _ _ (by decide), qv, stc_s]
        by_cases q : 35 * x ≤ (j : Int) ∧ (j : Int) < 35 * x + 35
        · rw [if_pos q, if_pos (by omega)]
          exact congrArg (M 106) (by omega)
        · rw [if_neg q, if_neg (by omega)]) dX9_save_41
  · skip
    have hin : ¬ (0 ≤ x ∧ x ≤ 1) := fun q => by rw [if_pos q] at e_z3; omega
    refine vv_bipush (n := (-2)) X (by decide) dX9_save_9 ?_
    exact vv_iret X hm (⟨fun _ => ⟨rfl, rfl⟩, fun q => absurd (show 0 ≤ x ∧ x ≤ 1 by omega) hin⟩) dX9_save_11
theorem u_X9_restore_9 : ∀ w ∈ u_ws RX9 TX9 20, w ∈ wsX9_restore := by decide +kernel
theorem k_X9_restore_7 : Cond.fieldLink yX9_restore.cls 7 (TX9 0).1 (TX9 0).2.1 (TX9 0).2.2.1 ∈ wsX9_restore := by decide +kernel
theorem k_X9_restore_16 : Cond.fieldLink yX9_restore.cls 16 (TX9 3).1 (TX9 3).2.1 (TX9 3).2.2.1 ∈ wsX9_restore := by decide +kernel
theorem k_X9_restore_19 : Cond.fieldLink yX9_restore.cls 19 (TX9 4).1 (TX9 4).2.1 (TX9 4).2.2.1 ∈ wsX9_restore := by decide +kernel
set_option maxRecDepth 100000 in
set_option maxHeartbeats 4000000 in
theorem c_X9_restore (l : Launch) (D : va_G) {ad : Nat → Nat} (cA : Nat → ClassId) (had : adok ad) (M : Mem) (x : Int) (hx : -2147483648 ≤ x ∧ x ≤ 2147483647) (hw : RW M) (hws : 0 ≤ x → x < 2 → M 109 x.toNat ≠ 0 → WF (vR (M 108) (35 * x.toNat))) (hbs : ∀ k, k < 2 → 0 ≤ M 109 k ∧ M 109 k ≤ 1) : CtI l yX9_restore wsX9_restore 2 45 D ad cA [.ref (ad 105), .int (zI x)] M (fun z M1 => (¬ (0 ≤ x ∧ x < 2) → z = -2 ∧ M1 = M) ∧ (0 ≤ x ∧ x < 2 → (M 109 x.toNat = 0 → z = -5 ∧ M1 = M) ∧ (M 109 x.toNat ≠ 0 → rChg (opC (vR (M 108) (35 * x.toNat))) (M 105 6) M z M1))) := by
  refine CtI.of (cc := cX9_restore) (maxL := 2) (ret := (some .int)) had (by decide) rfl (Nat.le_of_ble_eq_true rfl) ?_
  intro p e s m args below meth c X hm
  show VV p l e { frames := 2, cells := 0, slots := 0, locals := 45 } s m args below meth c 2 D ad cA (Afr ad s.heap.size) 0 0 (QI below args s D ad cA (fun z M1 => (¬ (0 ≤ x ∧ x < 2) → z = -2 ∧ M1 = M) ∧ (0 ≤ x ∧ x < 2 → (M 109 x.toNat = 0 → z = -5 ∧ M1 = M) ∧ (M 109 x.toNat ≠ 0 → rChg (opC (vR (M 108) (35 * x.toNat))) (M 105 6) M z M1)))) M 0 [(0, .ref (ad 105)), (1, .int (zI x))] []
  have hw0 := hw
  obtain ⟨hwA, hHi, hwh⟩ := hw
  have hW : rWR M := hwA.2.1
  have hn5 : 0 ≤ M 106 1 ∧ M 106 1 ≤ 5 := by
    have q1 := hW.2.1
    have q2 := hW.1
    omega
  have hsm : 1 ≤ M 106 2 ∧ M 106 2 ≤ 6 := WFs_pos hwA.2.2
  have hwb : ∀ k : Nat, (k : Int) < M 106 2 → (1 ≤ M 106 (23 + k) ∧ M 106 (23 + k) ≤ 999) ∧ (0 ≤ M 106 (29 + k) ∧ M 106 (29 + k) ≤ 100) := fun k hk => WFs_b hwA.2.2 hk
  have hp9 : 1 ≤ M 106 0 ∧ M 106 0 ≤ 99 := hwA.1
  refine vv_iload_n X 1 rfl rfl dX9_restore_0 ?_
  refine vv_iconst (n := 0) X dX9_restore_1 ?_
  refine vv_iconst (n := 1) X dX9_restore_2 ?_
  refine vv_callSI (As := [.int (zI x), .int (zI 0), .int (zI 1)]) (st := []) X 3 (c_X9_within l D cA had M x 0 1 (by omega) (by omega) (by omega)) gX9_restore_X9_within rfl (by decide +kernel) ⟨by decide, by decide⟩ (Nat.le_of_ble_eq_true rfl) ⟨by decide, by decide⟩ rfl rfl dX9_restore_3 (fun z3 Mc3 q_3 => ?_)
  obtain ⟨e_z3, g_z3⟩ := q_3
  have g_z3 := g_z3.symm
  subst g_z3
  refine vv_if_ne (tgt := 12) X (by rw [e_z3]; split <;> omega) dX9_restore_6 (by decide) (fun c_6 => ?_) (fun c_6 => ?_)
  · skip
    have hin : 0 ≤ x ∧ x ≤ 1 := Classical.byContradiction fun q => by rw [if_neg q] at e_z3; omega
    refine vv_aload_n X 0 rfl rfl dX9_restore_12 ?_
    refine vv_getr (Nf := 20) (ref := (TX9 4).1) X (by decide) sh_105 rfl 4 (by decide) u_X9_restore_9 k_X9_restore_19 rfl rfl dX9_restore_13 ?_
    refine vv_iload_n X 1 rfl rfl dX9_restore_16 ?_
    refine vv_iald (z := (M 109 (Int.toNat x))) X (by decide) sh_109 (by decide) (by omega) (rfl) dX9_restore_17 ?_
    have hb9 := hbs x.toNat (by omega)
    refine vv_if_ne (tgt := 24) X (by omega) dX9_restore_18 (by decide) (fun c_18 => ?_) (fun c_18 => ?_)
    · skip
      have hsw := hws hin.1 (by omega) c_18
      refine vv_aload_n X 0 rfl rfl dX9_restore_24 ?_
      refine vv_callVV (As := []) (st := []) (Nf := 20) X 0 (c_X9_record l D cA had M (hw0)) gX9_restore_X9_record rfl (by decide +kernel) ⟨by decide, by decide⟩ (Nat.le_of_ble_eq_true rfl) ⟨by decide, by decide⟩ rfl (by decide) sh_105 rfl rfl dX9_restore_25 (fun Mr qr => ?_)
      obtain ⟨⟨rP, rH⟩, rE, rk⟩ := qr
      have r106 : Mr 106 = M 106 := rE 106 (by decide)
      have rA : aR Mr = aR M := aR_eq r106
      refine vv_aload_n X 0 rfl rfl dX9_restore_28 ?_
      refine vv_getr (Nf := 20) (ref := (TX9 3).1) X (by decide) sh_105 rfl 3 (by decide) u_X9_restore_9 k_X9_restore_16 rfl rfl dX9_restore_29 ?_
      refine vv_bipush (n := 35) X (by decide) dX9_restore_32 ?_
      refine vv_iload_n X 1 rfl rfl dX9_restore_34 ?_
      refine vv_imul X dX9_restore_35 ?_
      refine vv_aload_n X 0 rfl rfl dX9_restore_36 ?_
      refine vv_getr (Nf := 20) (ref := (TX9 0).1) X (by decide) sh_105 rfl 0 (by decide) u_X9_restore_9 k_X9_restore_7 rfl rfl dX9_restore_37 ?_
      refine vv_iconst (n := 0) X dX9_restore_40 ?_
      refine vv_callSV (As := [.ref (ad 108), .int (zI (35 * x)), .ref (ad 106), .int (zI 0)]) (st := []) X 4 (c_X9_moves_108_106 l D cA had Mr (35 * x) 0 (by omega) (by omega)) gX9_restore_X9_moves rfl (by decide +kernel) ⟨by decide, by decide⟩ (Nat.le_of_ble_eq_true rfl) ⟨by decide, by decide⟩ rfl rfl dX9_restore_41 (fun Mv qv => ?_)
      refine vv_aload_n X 0 rfl rfl dX9_restore_44 ?_
      refine vv_getr (Nf := 20) (ref := (TX9 0).1) X (by decide) sh_105 rfl 0 (by decide) u_X9_restore_9 k_X9_restore_7 rfl rfl dX9_restore_45 ?_
      refine vv_iconst (n := 0) X dX9_restore_48 ?_
      refine vv_iald (z := (Mv 106 0)) X (by decide) sh_106 (by decide) (by omega) (rfl) dX9_restore_49 ?_
      exact vv_iret X hm (by
        refine ⟨fun q => absurd (show 0 ≤ x ∧ x < 2 by omega) q, fun _ => ⟨fun q => absurd q c_18, fun _ => ?_⟩⟩
        have e106 : ∀ t, t < 35 → M 108 (35 * x.toNat + t) = Mv 106 (0 + t) := fun t ht => by
          rw [qv, stc_s, if_pos (by omega), rE 108 (by decide)]
          exact congrArg (M 108) (by omega)
        have hA : eqA (vR (M 108) (35 * x.toNat)) (aR Mv) := eqA_tr (vR_sh e106 hsw) (eqA_sy (aR_v Mv))
        have hx3 : eqx Mr Mv [105, 106, 111, 112] := by rw [qv]; exact eqx_stc _ (eqx_rf _ _) (by decide)
        have e105 : Mv 105 = Mr 105 := by rw [qv, stc_n _ _ (by decide)]
        have h1 := hA.1
        have h2 := hsw.1
        have h3 : (aR Mv).1 = Mv 106 0 := rfl
        exact rChg_yes rP rH rE hx3 (by rw [e105]) (by rw [e105, rk 6 (by decide)]) (by omega) ⟨by rw [h1]; rfl, hA⟩) dX9_restore_50
    · skip
      refine vv_bipush (n := (-5)) X (by decide) dX9_restore_21 ?_
      exact vv_iret X hm (⟨fun q => absurd (show 0 ≤ x ∧ x < 2 by omega) q, fun _ => ⟨fun _ => ⟨rfl, rfl⟩, fun q => absurd (by omega) q⟩⟩) dX9_restore_23
  · skip
    have hin : ¬ (0 ≤ x ∧ x ≤ 1) := fun q => by rw [if_pos q] at e_z3; omega
    refine vv_bipush (n := (-2)) X (by decide) dX9_restore_9 ?_
    exact vv_iret X hm (⟨fun _ => ⟨rfl, rfl⟩, fun q => absurd (show 0 ≤ x ∧ x ≤ 1 by omega) hin⟩) dX9_restore_11
