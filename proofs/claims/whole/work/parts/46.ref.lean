theorem u_X9_refine_9 : ∀ w ∈ u_ws RX9 TX9 20, w ∈ wsX9_refine := by decide +kernel
theorem k_X9_refine_7 : Cond.fieldLink yX9_refine.cls 7 (TX9 0).1 (TX9 0).2.1 (TX9 0).2.2.1 ∈ wsX9_refine := by decide +kernel
theorem k_X9_refine_72 : Cond.fieldLink yX9_refine.cls 72 (TX9 9).1 (TX9 9).2.1 (TX9 9).2.2.1 ∈ wsX9_refine := by decide +kernel
set_option maxRecDepth 100000 in
set_option maxHeartbeats 4000000 in
theorem c_X9_refine (l : Launch) (D : va_G) {ad : Nat → Nat} (cA : Nat → ClassId) (had : adok ad) (M : Mem) (x a b : Int) (hx : -2147483648 ≤ x ∧ x ≤ 2147483647) (ha : -2147483648 ≤ a ∧ a ≤ 2147483647) (hb : -2147483648 ≤ b ∧ b ≤ 2147483647) (hw : RW M) : CtI l yX9_refine wsX9_refine 2 47 D ad cA [.ref (ad 105), .int (zI x), .int (zI a), .int (zI b)] M (fun z M1 => rChg (opSp x a b) (M 105 6) M z M1) := by
  refine CtI.of (cc := cX9_refine) (maxL := 8) (ret := (some .int)) had (by decide) rfl (Nat.le_of_ble_eq_true rfl) ?_
  intro p e s m args below meth c X hm
  show VV p l e { frames := 2, cells := 0, slots := 0, locals := 47 } s m args below meth c 8 D ad cA (Afr ad s.heap.size) 0 0 (QI below args s D ad cA (fun z M1 => rChg (opSp x a b) (M 105 6) M z M1)) M 0 [(0, .ref (ad 105)), (1, .int (zI x)), (2, .int (zI a)), (3, .int (zI b))] []
  have hw0 := hw
  obtain ⟨hwA, hHi, hwh⟩ := hw
  have hW : rWR M := hwA.2.1
  have hn5 : 0 ≤ M 106 1 ∧ M 106 1 ≤ 5 := by
    have q1 := hW.2.1
    have q2 := hW.1
    omega
  have hsm : 1 ≤ M 106 2 ∧ M 106 2 ≤ 6 := WFs_pos hwA.2.2
  have hwb : ∀ k : Nat, (k : Int) < M 106 2 → (1 ≤ M 106 (23 + k) ∧ M 106 (23 + k) ≤ 999) ∧ (0 ≤ M 106 (29 + k) ∧ M 106 (29 + k) ≤ 100) := fun k hk => WFs_b hwA.2.2 hk
  have hp9 : 1 ≤ M 106 0 ∧ M 106 0 ≤ 99 := hwA.1
  refine vv_aload_n X 0 rfl rfl dX9_refine_0 ?_
  refine vv_iload_n X 1 rfl rfl dX9_refine_1 ?_
  refine vv_callVI (As := [.int (zI x)]) (st := []) (Nf := 20) X 1 (c_X9_isPart l D cA had M x (by omega) (by omega)) gX9_refine_X9_isPart rfl (by decide +kernel) ⟨by decide, by decide⟩ (Nat.le_of_ble_eq_true rfl) ⟨by decide, by decide⟩ rfl (by decide) sh_105 rfl rfl dX9_refine_2 (fun z2 Mc2 q_2 => ?_)
  obtain ⟨e_z2, g_z2⟩ := q_2
  have g_z2 := g_z2.symm
  subst g_z2
  refine vv_if_ne (tgt := 10) X (by rw [e_z2]; split <;> omega) dX9_refine_5 (by decide) (fun c_5 => ?_) (fun c_5 => ?_)
  · skip
    have hin : 0 ≤ x ∧ x < M 106 2 := Classical.byContradiction fun q => by rw [if_neg q] at e_z2; omega
    have hwx := hwb x.toNat (by omega)
    refine vv_aload_n X 0 rfl rfl dX9_refine_10 ?_
    refine vv_getr (Nf := 20) (ref := (TX9 0).1) X (by decide) sh_105 rfl 0 (by decide) u_X9_refine_9 k_X9_refine_7 rfl rfl dX9_refine_11 ?_
    refine vv_bipush (n := 29) X (by decide) dX9_refine_14 ?_
    refine vv_iload_n X 1 rfl rfl dX9_refine_16 ?_
    refine vv_iadd X dX9_refine_17 ?_
    refine vv_iald (z := (M 106 (29 + x.toNat))) X (by decide) sh_106 (by decide) (by omega) (by first | (rw [show (29 + x).toNat = 29 + x.toNat by omega]; done) | (rw [show (29 + x).toNat = 29 + x.toNat by omega]; exact (rfl))) dX9_refine_18 ?_
    refine vv_istore (lv' := [(4, .int (zI (M 106 (29 + x.toNat)))), (0, .ref (ad 105)), (1, .int (zI x)), (2, .int (zI a)), (3, .int (zI b))]) X (by decide) rfl dX9_refine_19 ?_
    refine vv_iload_n X 3 rfl rfl dX9_refine_21 ?_
    refine vv_iconst (n := 0) X dX9_refine_22 ?_
    refine vv_iload X 0 rfl dX9_refine_23 ?_
    refine vv_callSI (As := [.int (zI a), .int (zI 0), .int (zI (M 106 (29 + x.toNat)))]) (st := []) X 3 (c_X9_within l D cA had M a 0 (M 106 (29 + x.toNat)) (by omega) (by omega) (by omega)) gX9_refine_X9_within rfl (by decide +kernel) ⟨by decide, by decide⟩ (Nat.le_of_ble_eq_true rfl) ⟨by decide, by decide⟩ rfl rfl dX9_refine_25 (fun z25 Mc25 q_25 => ?_)
    obtain ⟨e_z25, g_z25⟩ := q_25
    have g_z25 := g_z25.symm
    subst g_z25
    refine vv_if_eq (tgt := 42) X (by rw [e_z25]; split <;> omega) dX9_refine_28 (by decide) (fun c_28 => ?_) (fun c_28 => ?_)
    · skip
      have hra : ¬ (0 ≤ a ∧ a ≤ M 106 (29 + x.toNat)) := fun q => by rw [if_pos q] at e_z25; omega
      refine vv_bipush (n := (-2)) X (by decide) dX9_refine_42 ?_
      exact vv_iret X hm (rChg_no hHi (by decide) ⟨fun q => absurd hin q, fun _ => ⟨fun _ => ⟨rfl, eqA_rf _⟩, fun q => absurd q.1 hra⟩⟩ (eqx_rf _ _) rfl rfl) dX9_refine_44
    · skip
      have hra : 0 ≤ a ∧ a ≤ M 106 (29 + x.toNat) := Classical.byContradiction fun q => by rw [if_neg q] at e_z25; omega
      refine vv_iload_n X 4 rfl rfl dX9_refine_31 ?_
      refine vv_iload X 0 rfl dX9_refine_32 ?_
      refine vv_bipush (n := 100) X (by decide) dX9_refine_34 ?_
      refine vv_callSI (As := [.int (zI b), .int (zI (M 106 (29 + x.toNat))), .int (zI 100)]) (st := []) X 3 (c_X9_within l D cA had M b (M 106 (29 + x.toNat)) 100 (by omega) (by omega) (by omega)) gX9_refine_X9_within rfl (by decide +kernel) ⟨by decide, by decide⟩ (Nat.le_of_ble_eq_true rfl) ⟨by decide, by decide⟩ rfl rfl dX9_refine_36 (fun z36 Mc36 q_36 => ?_)
      obtain ⟨e_z36, g_z36⟩ := q_36
      have g_z36 := g_z36.symm
      subst g_z36
      refine vv_if_ne (tgt := 45) X (by rw [e_z36]; split <;> omega) dX9_refine_39 (by decide) (fun c_39 => ?_) (fun c_39 => ?_)
      · skip
        have hrb : M 106 (29 + x.toNat) ≤ b ∧ b ≤ 100 := Classical.byContradiction fun q => by rw [if_neg q] at e_z36; omega
        refine vv_iload_n X 4 rfl rfl dX9_refine_45 ?_
        refine vv_iload_n X 3 rfl rfl dX9_refine_46 ?_
        refine vv_icmp_ne (tgt := 54) X (by omega) (by omega) dX9_refine_47 (by decide) (fun c_47 => ?_) (fun c_47 => ?_)
        · skip
          refine vv_iload_n X 4 rfl rfl dX9_refine_54 ?_
          refine vv_iload_n X 3 rfl rfl dX9_refine_55 ?_
          refine vv_isub X dX9_refine_56 ?_
          refine vv_istore (lv' := [(5, .int (zI (b - a))), (4, .int (zI (M 106 (29 + x.toNat)))), (0, .ref (ad 105)), (1, .int (zI x)), (2, .int (zI a)), (3, .int (zI b))]) X (by decide) rfl dX9_refine_57 ?_
          refine vv_aload_n X 2 rfl rfl dX9_refine_59 ?_
          refine vv_iconst (n := 0) X dX9_refine_60 ?_
          refine vv_puti (Nf := 20) (ref := (TX9 9).1) X (by decide) sh_105 rfl 9 (by decide) u_X9_refine_9 k_X9_refine_72 rfl tyX9_ok nmX9 rfl (by decide +kernel) rfl rfl dX9_refine_61 ?_
          refine vv_iconst (n := 0) X dX9_refine_64 ?_
          refine vv_istore (lv' := [(6, .int (zI 0)), (5, .int (zI (b - a))), (4, .int (zI (M 106 (29 + x.toNat)))), (0, .ref (ad 105)), (1, .int (zI x)), (2, .int (zI a)), (3, .int (zI b))]) X (by decide) rfl dX9_refine_65 ?_
          have loop_67 : ∀ (n : Nat) (M_67 : Mem) (k : Nat) (wd : Int) (a6 : Int), wd = (if b = a then 1 else b - a) → a6 = (k : Int) → (k : Int) ≤ M 106 2 → eqx M M_67 [105, 111, 112] → (∀ q : Nat, q ≠ 9 → M_67 105 q = M 105 q) → SplitOf (rfF (fun k => M 106 (23 + k)) (fun k => M 106 (29 + k)) x.toNat a b k) (M_67 105 9) (M_67 111) (M_67 112) → M_67 105 9 ≤ (k : Int) + (if x < (k : Int) then 1 else 0) → (M 106 2 - a6).toNat < n → VV p l e { frames := 2, cells := 0, slots := 0, locals := 47 } s m args below meth c 8 D ad cA (Afr ad s.heap.size) 0 0 (QI below args s D ad cA (fun z M1 => rChg (opSp x a b) (M 105 6) M z M1)) M_67 67 [(0, .ref (ad 105)), (1, .int (zI x)), (2, .int (zI a)), (3, .int (zI b)), (4, .int (zI (M 106 (29 + x.toNat)))), (5, .int (zI wd)), (6, .int (zI a6))] [] := by
            intro n
            induction n with
            | zero => intro M_67 k wd a6 hwd h1 hk hE hq hS hmm hn; exact absurd hn (Nat.not_lt_zero _)
            | succ n ih_67 =>
              intro M_67 k wd a6 hwd h1 hk hE hq hS hmm hn
              have e_67_106 : M_67 106 = M 106 := hE 106 (by decide)
              have h6 : (23 + a6).toNat = 23 + k := by omega
              have h7 : (29 + a6).toNat = 29 + k := by omega
              have hwk : (k : Int) < M 106 2 → (1 ≤ M 106 (23 + k) ∧ M 106 (23 + k) ≤ 999) ∧ (0 ≤ M 106 (29 + k) ∧ M 106 (29 + k) ≤ 100) := hwb k
              have hwd1 : 1 ≤ wd ∧ wd ≤ 100 := by rw [hwd]; split <;> omega
              have hFb := rfF_b (w := (fun k => M 106 (23 + k))) (p := (fun k => M 106 (29 + k))) (x := x.toNat) (a := a) (b := b) (n := (M 106 2).toNat) (fun j hj => (hwb j (by omega)).1) (by omega) hra hrb k (by omega)
              have hF0 : ∀ j, 0 ≤ rfF (fun k => M 106 (23 + k)) (fun k => M 106 (29 + k)) x.toNat a b k j := fun j => (hFb j).1
              have hm7 : M_67 105 9 ≤ 7 := by split at hmm <;> omega
              have m1 := mulB (a := M 106 (23 + k)) (A := M 106 (23 + k)) (b := wd) (B := 100)
              have hrs : (rfF (fun k => M 106 (23 + k)) (fun k => M 106 (29 + k)) x.toNat a b (k + 1)) = if k = x.toNat then (if b = a then fadd (rfF (fun k => M 106 (23 + k)) (fun k => M 106 (29 + k)) x.toNat a b k) (M 106 (29 + x.toNat)) (M 106 (23 + x.toNat)) else fadd (fadd (rfF (fun k => M 106 (23 + k)) (fun k => M 106 (29 + k)) x.toNat a b k) a (M 106 (23 + x.toNat) * (b - M 106 (29 + x.toNat)))) b (M 106 (23 + x.toNat) * (M 106 (29 + x.toNat) - a))) else fadd (rfF (fun k => M 106 (23 + k)) (fun k => M 106 (29 + k)) x.toNat a b k) (M 106 (29 + k)) (M 106 (23 + k) * (if b = a then 1 else b - a)) := rfl
              refine vv_iload X 6 rfl dX9_refine_67 ?_
              refine vv_aload_n X 0 rfl rfl dX9_refine_69 ?_
              refine vv_getr (Nf := 20) (ref := (TX9 0).1) X (by decide) sh_105 rfl 0 (by decide) u_X9_refine_9 k_X9_refine_7 rfl rfl dX9_refine_70 ?_
              refine vv_iconst (n := 2) X dX9_refine_73 ?_
              refine vv_iald (z := (M 106 2)) X (by decide) sh_106 (by decide) (by omega) (show M_67 106 2 = M 106 2 from by rw [e_67_106]) dX9_refine_74 ?_
              refine vv_icmp_ge (tgt := 164) X (by omega) (by omega) dX9_refine_75 (by decide) (fun c_75 => ?_) (fun c_75 => ?_)
              · skip
                have ekn : k = (M 106 2).toNat := by omega
                have hm1 : 1 ≤ M_67 105 9 ∧ M_67 105 9 ≤ 8 := by
                  refine ⟨?_, by split at hmm <;> omega⟩
                  rw [hS.1, ekn]
                  exact rfF_pos (w := (fun k => M 106 (23 + k))) (p := (fun k => M 106 (29 + k))) (fun j hj => hwb j (by omega)) (by omega) hra hrb
                refine vv_aload_n X 0 rfl rfl dX9_refine_164 ?_
                refine vv_callVI (As := []) (st := []) (Nf := 20) X 0 (c_X9_areWell l D cA had M_67 (rfF (fun k => M 106 (23 + k)) (fun k => M 106 (29 + k)) x.toNat a b k) (hF0) (fun j => by have := hFb j; omega) (hS) (hm1)) gX9_refine_X9_areWell rfl (by decide +kernel) ⟨by decide, by decide⟩ (Nat.le_of_ble_eq_true rfl) ⟨by decide, by decide⟩ rfl (by decide) sh_105 rfl rfl dX9_refine_165 (fun zw Mw qw => ?_)
                obtain ⟨wo, wE, wS⟩ := qw
                have hEw : eqx M Mw [105, 111, 112] := eqx_tr hE (eqx_mono wE (by decide))
                have kw : ∀ k : Nat, k ≠ 9 → Mw 105 k = M 105 k := fun k q => by rw [wE 105 (by decide)]; exact hq k q
                have kw2 := kw 2 (by decide)
                have eAw : aR Mw = aR M := aR_eq (hEw 106 (by decide))
                have hzw : 0 ≤ zw ∧ zw ≤ 1 := by rcases wo with ⟨_, w⟩ | ⟨_, w⟩ <;> omega
                rw [ekn] at wo wS
                have hc0 := (cnt_b (red (rfF (fun k => M 106 (23 + k)) (fun k => M 106 (29 + k)) x.toNat a b (M 106 2).toNat)) 101).1
                have hm8 : Mw 105 9 ≤ 8 := by rw [wE 105 (by decide)]; exact hm1.2
                have hm0 : 0 ≤ Mw 105 9 := by rw [wS.1]; exact hc0
                refine vv_if_ne (tgt := 174) X (by omega) dX9_refine_168 (by decide) (fun c_168 => ?_) (fun c_168 => ?_)
                · skip
                  refine vv_aload_n X 0 rfl rfl dX9_refine_174 ?_
                  refine vv_callVV (As := []) (st := []) (Nf := 20) X 0 (c_X9_record l D cA had Mw (RW_pre hEw kw2 hw0)) gX9_refine_X9_record rfl (by decide +kernel) ⟨by decide, by decide⟩ (Nat.le_of_ble_eq_true rfl) ⟨by decide, by decide⟩ rfl (by decide) sh_105 rfl rfl dX9_refine_175 (fun Mr qr => ?_)
                  obtain ⟨⟨rP, rH⟩, rE, rk⟩ := qr
                  have r106 : Mr 106 = Mw 106 := rE 106 (by decide)
                  have rA : aR Mr = aR Mw := aR_eq r106
                  refine vv_aload_n X 0 rfl rfl dX9_refine_178 ?_
                  refine vv_callVV (As := []) (st := []) (Nf := 20) X 0 (c_X9_gives l D cA had Mr (by rw [rk 9 (by decide)]; omega)) gX9_refine_X9_gives rfl (by decide +kernel) ⟨by decide, by decide⟩ (Nat.le_of_ble_eq_true rfl) ⟨by decide, by decide⟩ rfl (by decide) sh_105 rfl rfl dX9_refine_179 (fun Mg qg => ?_)
                  refine vv_aload_n X 0 rfl rfl dX9_refine_182 ?_
                  refine vv_geti (Nf := 20) (ref := (TX9 9).1) (z := (Mg 105 9)) X (by decide) sh_105 rfl 9 (by decide) u_X9_refine_9 k_X9_refine_72 rfl rfl (rfl) dX9_refine_183 ?_
                  exact vv_iret X hm (by
                    have hok : okF (red (rfF (fun k => M 106 (23 + k)) (fun k => M 106 (29 + k)) x.toNat a b (M 106 2).toNat)) := by
                      rcases wo with ⟨w, _⟩ | ⟨_, w⟩
                      · exact w
                      · omega
                    obtain ⟨gE, gj⟩ := qg
                    have em : Mr 105 9 = Mw 105 9 := rk 9 (by decide)
                    have ew1 : Mr 111 = Mw 111 := rE 111 (by decide)
                    have ew2 : Mr 112 = Mw 112 := rE 112 (by decide)
                    have hc6 := hok.2
                    have hm9 := wS.1
                    have h := gives_A gj (by rw [r106, hEw 106 (by decide)]; exact hn5.2) (by omega)
                    rw [rA, em, ew1, ew2, eAw] at h
                    have ez : Mg 105 9 = Mw 105 9 := by rw [gE 105 (by decide), em]
                    have hz0 := (cnt_b (red (rfF (fun k => M 106 (23 + k)) (fun k => M 106 (29 + k)) x.toNat a b (M 106 2).toNat)) 101).1
                    refine rChg_pre hEw kw2 (rChg_yes (Mr := Mr) rP rH rE (eqx_mono gE (by decide)) (by rw [gE 105 (by decide)]) (by rw [gE 105 (by decide), rk 6 (by decide)]; exact kw 6 (by decide)) (by omega) ?_)
                    rw [eAw, ez]
                    exact sp_yes hwA hin ⟨hra, hrb⟩ hok wS h) dX9_refine_186
                · skip
                  refine vv_bipush (n := (-4)) X (by decide) dX9_refine_171 ?_
                  exact vv_iret X hm (by
                    have hno : ¬ okF (red (rfF (fun k => M 106 (23 + k)) (fun k => M 106 (29 + k)) x.toNat a b (M 106 2).toNat)) := by
                      rcases wo with ⟨_, w⟩ | ⟨w, _⟩
                      · omega
                      · exact w
                    exact rChg_pre hEw kw2 (by
                      rw [← kw 6 (by decide)]
                      refine rChg_no (by unfold HRi; rw [kw2]; exact hHi) (by decide) ?_ (eqx_rf _ _) rfl rfl
                      rw [eAw]
                      exact sp_no hwA hin ⟨hra, hrb⟩ hno)) dX9_refine_173
              · skip
                refine vv_aload_n X 0 rfl rfl dX9_refine_78 ?_
                refine vv_getr (Nf := 20) (ref := (TX9 0).1) X (by decide) sh_105 rfl 0 (by decide) u_X9_refine_9 k_X9_refine_7 rfl rfl dX9_refine_79 ?_
                refine vv_bipush (n := 23) X (by decide) dX9_refine_82 ?_
                refine vv_iload X 6 rfl dX9_refine_84 ?_
                refine vv_iadd X dX9_refine_86 ?_
                refine vv_iald (z := (M 106 (23 + k))) X (by decide) sh_106 (by decide) (by omega) (by first | (rw [h6]; done) | (rw [h6]; exact (show M_67 106 (23 + k) = M 106 (23 + k) from by rw [e_67_106]))) dX9_refine_87 ?_
                refine vv_istore (lv' := [(7, .int (zI (M 106 (23 + k)))), (0, .ref (ad 105)), (1, .int (zI x)), (2, .int (zI a)), (3, .int (zI b)), (4, .int (zI (M 106 (29 + x.toNat)))), (5, .int (zI wd)), (6, .int (zI a6))]) X (by decide) rfl dX9_refine_88 ?_
                refine vv_iload X 7 rfl dX9_refine_90 ?_
                refine vv_iload_n X 2 rfl rfl dX9_refine_92 ?_
                refine vv_icmp_eq (tgt := 118) X (by omega) (by omega) dX9_refine_93 (by decide) (fun c_93 => ?_) (fun c_93 => ?_)
                · skip
                  refine vv_iload_n X 4 rfl rfl dX9_refine_118 ?_
                  refine vv_iload_n X 3 rfl rfl dX9_refine_119 ?_
                  refine vv_icmp_ne (tgt := 134) X (by omega) (by omega) dX9_refine_120 (by decide) (fun c_120 => ?_) (fun c_120 => ?_)
                  · skip
                    refine vv_aload_n X 1 rfl rfl dX9_refine_134 ?_
                    refine vv_iload X 0 rfl dX9_refine_135 ?_
                    refine vv_iload_n X 4 rfl rfl dX9_refine_137 ?_
                    refine vv_iload X 5 rfl dX9_refine_138 ?_
                    refine vv_isub X dX9_refine_140 ?_
                    refine vv_imul X dX9_refine_141 ?_
                    refine vv_iload_n X 3 rfl rfl dX9_refine_142 ?_
                    refine vv_callVV (As := [.int (zI ((M 106 (23 + k)) * (b - (M 106 (29 + x.toNat))))), .int (zI a)]) (st := []) (Nf := 20) X 2 (c_X9_takes l D cA had M_67 ((M 106 (23 + k)) * (b - (M 106 (29 + x.toNat)))) a (rfF (fun k => M 106 (23 + k)) (fun k => M 106 (29 + k)) x.toNat a b k) (by have := hwk (by omega); have := mulB (a := M 106 (23 + k)) (A := 999) (b := b - M 106 (29 + x.toNat)) (B := 100) (by omega) (by omega); omega) (by have := hwk (by omega); have := mulB (a := M 106 (23 + k)) (A := 999) (b := b - M 106 (29 + x.toNat)) (B := 100) (by omega) (by omega); omega) (by omega) (Or.inr (by omega)) (hF0) (hS) (hm7)) gX9_refine_X9_takes rfl (by decide +kernel) ⟨by decide, by decide⟩ (Nat.le_of_ble_eq_true rfl) ⟨by decide, by decide⟩ rfl (by decide) sh_105 rfl rfl dX9_refine_143 (fun Mu qu => ?_)
                    obtain ⟨uE, uk, uS, um⟩ := qu
                    refine vv_aload_n X 1 rfl rfl dX9_refine_146 ?_
                    refine vv_iload X 0 rfl dX9_refine_147 ?_
                    refine vv_iload X 5 rfl dX9_refine_149 ?_
                    refine vv_iload_n X 3 rfl rfl dX9_refine_151 ?_
                    refine vv_isub X dX9_refine_152 ?_
                    refine vv_imul X dX9_refine_153 ?_
                    refine vv_iload_n X 4 rfl rfl dX9_refine_154 ?_
                    refine vv_callVV (As := [.int (zI ((M 106 (23 + k)) * ((M 106 (29 + x.toNat)) - a))), .int (zI b)]) (st := []) (Nf := 20) X 2 (c_X9_takes l D cA had Mu ((M 106 (23 + k)) * ((M 106 (29 + x.toNat)) - a)) b (fadd (rfF (fun k => M 106 (23 + k)) (fun k => M 106 (29 + k)) x.toNat a b k) a (M 106 (23 + k) * (b - M 106 (29 + x.toNat)))) (by have := hwk (by omega); have := mulB (a := M 106 (23 + k)) (A := 999) (b := M 106 (29 + x.toNat) - a) (B := 100) (by omega) (by omega); omega) (by have := hwk (by omega); have := mulB (a := M 106 (23 + k)) (A := 999) (b := M 106 (29 + x.toNat) - a) (B := 100) (by omega) (by omega); omega) (by omega) (Or.inr (by omega)) (fadd_nn hF0 (by have := hwk (by omega); have := mulB (a := M 106 (23 + k)) (A := 999) (b := b - M 106 (29 + x.toNat)) (B := 100) (by omega) (by omega); omega)) (uS) (by split at hmm <;> omega)) gX9_refine_X9_takes rfl (by decide +kernel) ⟨by decide, by decide⟩ (Nat.le_of_ble_eq_true rfl) ⟨by decide, by decide⟩ rfl (by decide) sh_105 rfl rfl dX9_refine_155 (fun Mt qt => ?_)
                    obtain ⟨tE, tk, tS, tm⟩ := qt
                    refine vv_iinc (lv' := [(6, .int (zI (a6 + 1))), (7, .int (zI (M 106 (23 + k)))), (0, .ref (ad 105)), (1, .int (zI x)), (2, .int (zI a)), (3, .int (zI b)), (4, .int (zI (M 106 (29 + x.toNat)))), (5, .int (zI wd))]) X 7 rfl (by decide) rfl dX9_refine_158 ?_
                    refine vv_goto (tgt := 67) X (by decide) dX9_refine_161 ?_
                    refine vv_sub (lv' := [(0, .ref (ad 105)), (1, .int (zI x)), (2, .int (zI a)), (3, .int (zI b)), (4, .int (zI (M 106 (29 + x.toNat)))), (5, .int (zI wd)), (6, .int (zI (a6 + 1)))]) [2, 3, 4, 5, 6, 7, 0] rfl ?_
                    exact ih_67 Mt (k + 1) wd (a6 + 1) hwd (by omega) (by omega) (eqx_tr hE (eqx_tr (eqx_mono uE (by decide)) (eqx_mono tE (by decide)))) (fun q h => by rw [tk q h, uk q h]; exact hq q h) (by rw [hrs, if_pos (by omega), if_neg (by omega)]; rw [show k = x.toNat by omega] at tS ⊢; exact tS) (by split at hmm <;> (repeat' split) <;> omega) (by omega)
                  · skip
                    refine vv_aload_n X 1 rfl rfl dX9_refine_123 ?_
                    refine vv_iload X 0 rfl dX9_refine_124 ?_
                    refine vv_iload X 5 rfl dX9_refine_126 ?_
                    refine vv_callVV (As := [.int (zI (M 106 (23 + k))), .int (zI (M 106 (29 + x.toNat)))]) (st := []) (Nf := 20) X 2 (c_X9_takes l D cA had M_67 (M 106 (23 + k)) (M 106 (29 + x.toNat)) (rfF (fun k => M 106 (23 + k)) (fun k => M 106 (29 + k)) x.toNat a b k) (by have := hwk (by omega); omega) (by have := hwk (by omega); omega) (by omega) (Or.inr (by omega)) (hF0) (hS) (hm7)) gX9_refine_X9_takes rfl (by decide +kernel) ⟨by decide, by decide⟩ (Nat.le_of_ble_eq_true rfl) ⟨by decide, by decide⟩ rfl (by decide) sh_105 rfl rfl dX9_refine_128 (fun Mt qt => ?_)
                    obtain ⟨tE, tk, tS, tm⟩ := qt
                    refine vv_goto (tgt := 158) X (by decide) dX9_refine_131 ?_
                    skip
                    refine vv_iinc (lv' := [(6, .int (zI (a6 + 1))), (7, .int (zI (M 106 (23 + k)))), (0, .ref (ad 105)), (1, .int (zI x)), (2, .int (zI a)), (3, .int (zI b)), (4, .int (zI (M 106 (29 + x.toNat)))), (5, .int (zI wd))]) X 7 rfl (by decide) rfl dX9_refine_158 ?_
                    refine vv_goto (tgt := 67) X (by decide) dX9_refine_161 ?_
                    refine vv_sub (lv' := [(0, .ref (ad 105)), (1, .int (zI x)), (2, .int (zI a)), (3, .int (zI b)), (4, .int (zI (M 106 (29 + x.toNat)))), (5, .int (zI wd)), (6, .int (zI (a6 + 1)))]) [2, 3, 4, 5, 6, 7, 0] rfl ?_
                    exact ih_67 Mt (k + 1) wd (a6 + 1) hwd (by omega) (by omega) (eqx_tr hE (eqx_mono tE (by decide))) (fun q h => by rw [tk q h]; exact hq q h) (by rw [hrs, if_pos (by omega), if_pos (by omega)]; rw [show k = x.toNat by omega] at tS ⊢; exact tS) (by split at hmm <;> (repeat' split) <;> omega) (by omega)
                · skip
                  refine vv_aload_n X 1 rfl rfl dX9_refine_96 ?_
                  refine vv_iload X 0 rfl dX9_refine_97 ?_
                  refine vv_iload X 6 rfl dX9_refine_99 ?_
                  refine vv_imul X dX9_refine_101 ?_
                  refine vv_aload_n X 1 rfl rfl dX9_refine_102 ?_
                  refine vv_getr (Nf := 20) (ref := (TX9 0).1) X (by decide) sh_105 rfl 0 (by decide) u_X9_refine_9 k_X9_refine_7 rfl rfl dX9_refine_103 ?_
                  refine vv_bipush (n := 29) X (by decide) dX9_refine_106 ?_
                  refine vv_iload X 7 rfl dX9_refine_108 ?_
                  refine vv_iadd X dX9_refine_110 ?_
                  refine vv_iald (z := (M 106 (29 + k))) X (by decide) sh_106 (by decide) (by omega) (by first | (rw [h7]; done) | (rw [h7]; exact (show M_67 106 (29 + k) = M 106 (29 + k) from by rw [e_67_106]))) dX9_refine_111 ?_
                  refine vv_callVV (As := [.int (zI ((M 106 (23 + k)) * wd)), .int (zI (M 106 (29 + k)))]) (st := []) (Nf := 20) X 2 (c_X9_takes l D cA had M_67 ((M 106 (23 + k)) * wd) (M 106 (29 + k)) (rfF (fun k => M 106 (23 + k)) (fun k => M 106 (29 + k)) x.toNat a b k) (by have := hwk (by omega); have := mulB (a := M 106 (23 + k)) (A := 999) (b := wd) (B := 100) (by omega) (by omega); omega) (by have := hwk (by omega); have := mulB (a := M 106 (23 + k)) (A := 999) (b := wd) (B := 100) (by omega) (by omega); omega) (by have := hwk (by omega); omega) (Or.inr (by have := hwk (by omega); omega)) (hF0) (hS) (hm7)) gX9_refine_X9_takes rfl (by decide +kernel) ⟨by decide, by decide⟩ (Nat.le_of_ble_eq_true rfl) ⟨by decide, by decide⟩ rfl (by decide) sh_105 rfl rfl dX9_refine_112 (fun Mt qt => ?_)
                  obtain ⟨tE, tk, tS, tm⟩ := qt
                  refine vv_goto (tgt := 158) X (by decide) dX9_refine_115 ?_
                  skip
                  refine vv_iinc (lv' := [(6, .int (zI (a6 + 1))), (7, .int (zI (M 106 (23 + k)))), (0, .ref (ad 105)), (1, .int (zI x)), (2, .int (zI a)), (3, .int (zI b)), (4, .int (zI (M 106 (29 + x.toNat)))), (5, .int (zI wd))]) X 7 rfl (by decide) rfl dX9_refine_158 ?_
                  refine vv_goto (tgt := 67) X (by decide) dX9_refine_161 ?_
                  refine vv_sub (lv' := [(0, .ref (ad 105)), (1, .int (zI x)), (2, .int (zI a)), (3, .int (zI b)), (4, .int (zI (M 106 (29 + x.toNat)))), (5, .int (zI wd)), (6, .int (zI (a6 + 1)))]) [2, 3, 4, 5, 6, 7, 0] rfl ?_
                  exact ih_67 Mt (k + 1) wd (a6 + 1) hwd (by omega) (by omega) (eqx_tr hE (eqx_mono tE (by decide))) (fun q h => by rw [tk q h]; exact hq q h) (by rw [hrs, if_neg (by omega), ← hwd]; exact tS) (by split at hmm <;> (repeat' split) <;> omega) (by omega)
          refine vv_sub (lv' := [(0, .ref (ad 105)), (1, .int (zI x)), (2, .int (zI a)), (3, .int (zI b)), (4, .int (zI (M 106 (29 + x.toNat)))), (5, .int (zI (b - a))), (6, .int (zI 0))]) [3, 4, 5, 6, 2, 1, 0] rfl ?_
          exact loop_67 _ (up2 M 105 9 0) 0 (b - a) 0 (by rw [if_neg (by omega)]) rfl (by omega) (eqx_up _ _ (eqx_rf _ _) (by decide)) (fun q h => up2_m _ _ _ h) (by rw [up2_s]; exact SplitOf_0) (by rw [up2_s, if_neg (by omega)]; decide) (Nat.lt_succ_self _)
        · skip
          refine vv_iconst (n := 1) X dX9_refine_50 ?_
          refine vv_goto (tgt := 57) X (by decide) dX9_refine_51 ?_
          refine vv_istore (lv' := [(5, .int (zI 1)), (4, .int (zI (M 106 (29 + x.toNat)))), (0, .ref (ad 105)), (1, .int (zI x)), (2, .int (zI a)), (3, .int (zI b))]) X (by decide) rfl dX9_refine_57 ?_
          refine vv_aload_n X 2 rfl rfl dX9_refine_59 ?_
          refine vv_iconst (n := 0) X dX9_refine_60 ?_
          refine vv_puti (Nf := 20) (ref := (TX9 9).1) X (by decide) sh_105 rfl 9 (by decide) u_X9_refine_9 k_X9_refine_72 rfl tyX9_ok nmX9 rfl (by decide +kernel) rfl rfl dX9_refine_61 ?_
          refine vv_iconst (n := 0) X dX9_refine_64 ?_
          refine vv_istore (lv' := [(6, .int (zI 0)), (5, .int (zI 1)), (4, .int (zI (M 106 (29 + x.toNat)))), (0, .ref (ad 105)), (1, .int (zI x)), (2, .int (zI a)), (3, .int (zI b))]) X (by decide) rfl dX9_refine_65 ?_
          have loop_67 : ∀ (n : Nat) (M_67 : Mem) (k : Nat) (wd : Int) (a6 : Int), wd = (if b = a then 1 else b - a) → a6 = (k : Int) → (k : Int) ≤ M 106 2 → eqx M M_67 [105, 111, 112] → (∀ q : Nat, q ≠ 9 → M_67 105 q = M 105 q) → SplitOf (rfF (fun k => M 106 (23 + k)) (fun k => M 106 (29 + k)) x.toNat a b k) (M_67 105 9) (M_67 111) (M_67 112) → M_67 105 9 ≤ (k : Int) + (if x < (k : Int) then 1 else 0) → (M 106 2 - a6).toNat < n → VV p l e { frames := 2, cells := 0, slots := 0, locals := 47 } s m args below meth c 8 D ad cA (Afr ad s.heap.size) 0 0 (QI below args s D ad cA (fun z M1 => rChg (opSp x a b) (M 105 6) M z M1)) M_67 67 [(0, .ref (ad 105)), (1, .int (zI x)), (2, .int (zI a)), (3, .int (zI b)), (4, .int (zI (M 106 (29 + x.toNat)))), (5, .int (zI wd)), (6, .int (zI a6))] [] := by
            intro n
            induction n with
            | zero => intro M_67 k wd a6 hwd h1 hk hE hq hS hmm hn; exact absurd hn (Nat.not_lt_zero _)
            | succ n ih_67 =>
              intro M_67 k wd a6 hwd h1 hk hE hq hS hmm hn
              have e_67_106 : M_67 106 = M 106 := hE 106 (by decide)
              have h6 : (23 + a6).toNat = 23 + k := by omega
              have h7 : (29 + a6).toNat = 29 + k := by omega
              have hwk : (k : Int) < M 106 2 → (1 ≤ M 106 (23 + k) ∧ M 106 (23 + k) ≤ 999) ∧ (0 ≤ M 106 (29 + k) ∧ M 106 (29 + k) ≤ 100) := hwb k
              have hwd1 : 1 ≤ wd ∧ wd ≤ 100 := by rw [hwd]; split <;> omega
              have hFb := rfF_b (w := (fun k => M 106 (23 + k))) (p := (fun k => M 106 (29 + k))) (x := x.toNat) (a := a) (b := b) (n := (M 106 2).toNat) (fun j hj => (hwb j (by omega)).1) (by omega) hra hrb k (by omega)
              have hF0 : ∀ j, 0 ≤ rfF (fun k => M 106 (23 + k)) (fun k => M 106 (29 + k)) x.toNat a b k j := fun j => (hFb j).1
              have hm7 : M_67 105 9 ≤ 7 := by split at hmm <;> omega
              have m1 := mulB (a := M 106 (23 + k)) (A := M 106 (23 + k)) (b := wd) (B := 100)
              have hrs : (rfF (fun k => M 106 (23 + k)) (fun k => M 106 (29 + k)) x.toNat a b (k + 1)) = if k = x.toNat then (if b = a then fadd (rfF (fun k => M 106 (23 + k)) (fun k => M 106 (29 + k)) x.toNat a b k) (M 106 (29 + x.toNat)) (M 106 (23 + x.toNat)) else fadd (fadd (rfF (fun k => M 106 (23 + k)) (fun k => M 106 (29 + k)) x.toNat a b k) a (M 106 (23 + x.toNat) * (b - M 106 (29 + x.toNat)))) b (M 106 (23 + x.toNat) * (M 106 (29 + x.toNat) - a))) else fadd (rfF (fun k => M 106 (23 + k)) (fun k => M 106 (29 + k)) x.toNat a b k) (M 106 (29 + k)) (M 106 (23 + k) * (if b = a then 1 else b - a)) := rfl
              refine vv_iload X 6 rfl dX9_refine_67 ?_
              refine vv_aload_n X 0 rfl rfl dX9_refine_69 ?_
              refine vv_getr (Nf := 20) (ref := (TX9 0).1) X (by decide) sh_105 rfl 0 (by decide) u_X9_refine_9 k_X9_refine_7 rfl rfl dX9_refine_70 ?_
              refine vv_iconst (n := 2) X dX9_refine_73 ?_
              refine vv_iald (z := (M 106 2)) X (by decide) sh_106 (by decide) (by omega) (show M_67 106 2 = M 106 2 from by rw [e_67_106]) dX9_refine_74 ?_
              refine vv_icmp_ge (tgt := 164) X (by omega) (by omega) dX9_refine_75 (by decide) (fun c_75 => ?_) (fun c_75 => ?_)
              · skip
                have ekn : k = (M 106 2).toNat := by omega
                have hm1 : 1 ≤ M_67 105 9 ∧ M_67 105 9 ≤ 8 := by
                  refine ⟨?_, by split at hmm <;> omega⟩
                  rw [hS.1, ekn]
                  exact rfF_pos (w := (fun k => M 106 (23 + k))) (p := (fun k => M 106 (29 + k))) (fun j hj => hwb j (by omega)) (by omega) hra hrb
                refine vv_aload_n X 0 rfl rfl dX9_refine_164 ?_
                refine vv_callVI (As := []) (st := []) (Nf := 20) X 0 (c_X9_areWell l D cA had M_67 (rfF (fun k => M 106 (23 + k)) (fun k => M 106 (29 + k)) x.toNat a b k) (hF0) (fun j => by have := hFb j; omega) (hS) (hm1)) gX9_refine_X9_areWell rfl (by decide +kernel) ⟨by decide, by decide⟩ (Nat.le_of_ble_eq_true rfl) ⟨by decide, by decide⟩ rfl (by decide) sh_105 rfl rfl dX9_refine_165 (fun zw Mw qw => ?_)
                obtain ⟨wo, wE, wS⟩ := qw
                have hEw : eqx M Mw [105, 111, 112] := eqx_tr hE (eqx_mono wE (by decide))
                have kw : ∀ k : Nat, k ≠ 9 → Mw 105 k = M 105 k := fun k q => by rw [wE 105 (by decide)]; exact hq k q
                have kw2 := kw 2 (by decide)
                have eAw : aR Mw = aR M := aR_eq (hEw 106 (by decide))
                have hzw : 0 ≤ zw ∧ zw ≤ 1 := by rcases wo with ⟨_, w⟩ | ⟨_, w⟩ <;> omega
                rw [ekn] at wo wS
                have hc0 := (cnt_b (red (rfF (fun k => M 106 (23 + k)) (fun k => M 106 (29 + k)) x.toNat a b (M 106 2).toNat)) 101).1
                have hm8 : Mw 105 9 ≤ 8 := by rw [wE 105 (by decide)]; exact hm1.2
                have hm0 : 0 ≤ Mw 105 9 := by rw [wS.1]; exact hc0
                refine vv_if_ne (tgt := 174) X (by omega) dX9_refine_168 (by decide) (fun c_168 => ?_) (fun c_168 => ?_)
                · skip
                  refine vv_aload_n X 0 rfl rfl dX9_refine_174 ?_
                  refine vv_callVV (As := []) (st := []) (Nf := 20) X 0 (c_X9_record l D cA had Mw (RW_pre hEw kw2 hw0)) gX9_refine_X9_record rfl (by decide +kernel) ⟨by decide, by decide⟩ (Nat.le_of_ble_eq_true rfl) ⟨by decide, by decide⟩ rfl (by decide) sh_105 rfl rfl dX9_refine_175 (fun Mr qr => ?_)
                  obtain ⟨⟨rP, rH⟩, rE, rk⟩ := qr
                  have r106 : Mr 106 = Mw 106 := rE 106 (by decide)
                  have rA : aR Mr = aR Mw := aR_eq r106
                  refine vv_aload_n X 0 rfl rfl dX9_refine_178 ?_
                  refine vv_callVV (As := []) (st := []) (Nf := 20) X 0 (c_X9_gives l D cA had Mr (by rw [rk 9 (by decide)]; omega)) gX9_refine_X9_gives rfl (by decide +kernel) ⟨by decide, by decide⟩ (Nat.le_of_ble_eq_true rfl) ⟨by decide, by decide⟩ rfl (by decide) sh_105 rfl rfl dX9_refine_179 (fun Mg qg => ?_)
                  refine vv_aload_n X 0 rfl rfl dX9_refine_182 ?_
                  refine vv_geti (Nf := 20) (ref := (TX9 9).1) (z := (Mg 105 9)) X (by decide) sh_105 rfl 9 (by decide) u_X9_refine_9 k_X9_refine_72 rfl rfl (rfl) dX9_refine_183 ?_
                  exact vv_iret X hm (by
                    have hok : okF (red (rfF (fun k => M 106 (23 + k)) (fun k => M 106 (29 + k)) x.toNat a b (M 106 2).toNat)) := by
                      rcases wo with ⟨w, _⟩ | ⟨_, w⟩
                      · exact w
                      · omega
                    obtain ⟨gE, gj⟩ := qg
                    have em : Mr 105 9 = Mw 105 9 := rk 9 (by decide)
                    have ew1 : Mr 111 = Mw 111 := rE 111 (by decide)
                    have ew2 : Mr 112 = Mw 112 := rE 112 (by decide)
                    have hc6 := hok.2
                    have hm9 := wS.1
                    have h := gives_A gj (by rw [r106, hEw 106 (by decide)]; exact hn5.2) (by omega)
                    rw [rA, em, ew1, ew2, eAw] at h
                    have ez : Mg 105 9 = Mw 105 9 := by rw [gE 105 (by decide), em]
                    have hz0 := (cnt_b (red (rfF (fun k => M 106 (23 + k)) (fun k => M 106 (29 + k)) x.toNat a b (M 106 2).toNat)) 101).1
                    refine rChg_pre hEw kw2 (rChg_yes (Mr := Mr) rP rH rE (eqx_mono gE (by decide)) (by rw [gE 105 (by decide)]) (by rw [gE 105 (by decide), rk 6 (by decide)]; exact kw 6 (by decide)) (by omega) ?_)
                    rw [eAw, ez]
                    exact sp_yes hwA hin ⟨hra, hrb⟩ hok wS h) dX9_refine_186
                · skip
                  refine vv_bipush (n := (-4)) X (by decide) dX9_refine_171 ?_
                  exact vv_iret X hm (by
                    have hno : ¬ okF (red (rfF (fun k => M 106 (23 + k)) (fun k => M 106 (29 + k)) x.toNat a b (M 106 2).toNat)) := by
                      rcases wo with ⟨_, w⟩ | ⟨w, _⟩
                      · omega
                      · exact w
                    exact rChg_pre hEw kw2 (by
                      rw [← kw 6 (by decide)]
                      refine rChg_no (by unfold HRi; rw [kw2]; exact hHi) (by decide) ?_ (eqx_rf _ _) rfl rfl
                      rw [eAw]
                      exact sp_no hwA hin ⟨hra, hrb⟩ hno)) dX9_refine_173
              · skip
                refine vv_aload_n X 0 rfl rfl dX9_refine_78 ?_
                refine vv_getr (Nf := 20) (ref := (TX9 0).1) X (by decide) sh_105 rfl 0 (by decide) u_X9_refine_9 k_X9_refine_7 rfl rfl dX9_refine_79 ?_
                refine vv_bipush (n := 23) X (by decide) dX9_refine_82 ?_
                refine vv_iload X 6 rfl dX9_refine_84 ?_
                refine vv_iadd X dX9_refine_86 ?_
                refine vv_iald (z := (M 106 (23 + k))) X (by decide) sh_106 (by decide) (by omega) (by first | (rw [h6]; done) | (rw [h6]; exact (show M_67 106 (23 + k) = M 106 (23 + k) from by rw [e_67_106]))) dX9_refine_87 ?_
                refine vv_istore (lv' := [(7, .int (zI (M 106 (23 + k)))), (0, .ref (ad 105)), (1, .int (zI x)), (2, .int (zI a)), (3, .int (zI b)), (4, .int (zI (M 106 (29 + x.toNat)))), (5, .int (zI wd)), (6, .int (zI a6))]) X (by decide) rfl dX9_refine_88 ?_
                refine vv_iload X 7 rfl dX9_refine_90 ?_
                refine vv_iload_n X 2 rfl rfl dX9_refine_92 ?_
                refine vv_icmp_eq (tgt := 118) X (by omega) (by omega) dX9_refine_93 (by decide) (fun c_93 => ?_) (fun c_93 => ?_)
                · skip
                  refine vv_iload_n X 4 rfl rfl dX9_refine_118 ?_
                  refine vv_iload_n X 3 rfl rfl dX9_refine_119 ?_
                  refine vv_icmp_ne (tgt := 134) X (by omega) (by omega) dX9_refine_120 (by decide) (fun c_120 => ?_) (fun c_120 => ?_)
                  · skip
                    refine vv_aload_n X 1 rfl rfl dX9_refine_134 ?_
                    refine vv_iload X 0 rfl dX9_refine_135 ?_
                    refine vv_iload_n X 4 rfl rfl dX9_refine_137 ?_
                    refine vv_iload X 5 rfl dX9_refine_138 ?_
                    refine vv_isub X dX9_refine_140 ?_
                    refine vv_imul X dX9_refine_141 ?_
                    refine vv_iload_n X 3 rfl rfl dX9_refine_142 ?_
                    refine vv_callVV (As := [.int (zI ((M 106 (23 + k)) * (b - (M 106 (29 + x.toNat))))), .int (zI a)]) (st := []) (Nf := 20) X 2 (c_X9_takes l D cA had M_67 ((M 106 (23 + k)) * (b - (M 106 (29 + x.toNat)))) a (rfF (fun k => M 106 (23 + k)) (fun k => M 106 (29 + k)) x.toNat a b k) (by have := hwk (by omega); have := mulB (a := M 106 (23 + k)) (A := 999) (b := b - M 106 (29 + x.toNat)) (B := 100) (by omega) (by omega); omega) (by have := hwk (by omega); have := mulB (a := M 106 (23 + k)) (A := 999) (b := b - M 106 (29 + x.toNat)) (B := 100) (by omega) (by omega); omega) (by omega) (Or.inr (by omega)) (hF0) (hS) (hm7)) gX9_refine_X9_takes rfl (by decide +kernel) ⟨by decide, by decide⟩ (Nat.le_of_ble_eq_true rfl) ⟨by decide, by decide⟩ rfl (by decide) sh_105 rfl rfl dX9_refine_143 (fun Mu qu => ?_)
                    obtain ⟨uE, uk, uS, um⟩ := qu
                    refine vv_aload_n X 1 rfl rfl dX9_refine_146 ?_
                    refine vv_iload X 0 rfl dX9_refine_147 ?_
                    refine vv_iload X 5 rfl dX9_refine_149 ?_
                    refine vv_iload_n X 3 rfl rfl dX9_refine_151 ?_
                    refine vv_isub X dX9_refine_152 ?_
                    refine vv_imul X dX9_refine_153 ?_
                    refine vv_iload_n X 4 rfl rfl dX9_refine_154 ?_
                    refine vv_callVV (As := [.int (zI ((M 106 (23 + k)) * ((M 106 (29 + x.toNat)) - a))), .int (zI b)]) (st := []) (Nf := 20) X 2 (c_X9_takes l D cA had Mu ((M 106 (23 + k)) * ((M 106 (29 + x.toNat)) - a)) b (fadd (rfF (fun k => M 106 (23 + k)) (fun k => M 106 (29 + k)) x.toNat a b k) a (M 106 (23 + k) * (b - M 106 (29 + x.toNat)))) (by have := hwk (by omega); have := mulB (a := M 106 (23 + k)) (A := 999) (b := M 106 (29 + x.toNat) - a) (B := 100) (by omega) (by omega); omega) (by have := hwk (by omega); have := mulB (a := M 106 (23 + k)) (A := 999) (b := M 106 (29 + x.toNat) - a) (B := 100) (by omega) (by omega); omega) (by omega) (Or.inr (by omega)) (fadd_nn hF0 (by have := hwk (by omega); have := mulB (a := M 106 (23 + k)) (A := 999) (b := b - M 106 (29 + x.toNat)) (B := 100) (by omega) (by omega); omega)) (uS) (by split at hmm <;> omega)) gX9_refine_X9_takes rfl (by decide +kernel) ⟨by decide, by decide⟩ (Nat.le_of_ble_eq_true rfl) ⟨by decide, by decide⟩ rfl (by decide) sh_105 rfl rfl dX9_refine_155 (fun Mt qt => ?_)
                    obtain ⟨tE, tk, tS, tm⟩ := qt
                    refine vv_iinc (lv' := [(6, .int (zI (a6 + 1))), (7, .int (zI (M 106 (23 + k)))), (0, .ref (ad 105)), (1, .int (zI x)), (2, .int (zI a)), (3, .int (zI b)), (4, .int (zI (M 106 (29 + x.toNat)))), (5, .int (zI wd))]) X 7 rfl (by decide) rfl dX9_refine_158 ?_
                    refine vv_goto (tgt := 67) X (by decide) dX9_refine_161 ?_
                    refine vv_sub (lv' := [(0, .ref (ad 105)), (1, .int (zI x)), (2, .int (zI a)), (3, .int (zI b)), (4, .int (zI (M 106 (29 + x.toNat)))), (5, .int (zI wd)), (6, .int (zI (a6 + 1)))]) [2, 3, 4, 5, 6, 7, 0] rfl ?_
                    exact ih_67 Mt (k + 1) wd (a6 + 1) hwd (by omega) (by omega) (eqx_tr hE (eqx_tr (eqx_mono uE (by decide)) (eqx_mono tE (by decide)))) (fun q h => by rw [tk q h, uk q h]; exact hq q h) (by rw [hrs, if_pos (by omega), if_neg (by omega)]; rw [show k = x.toNat by omega] at tS ⊢; exact tS) (by split at hmm <;> (repeat' split) <;> omega) (by omega)
                  · skip
                    refine vv_aload_n X 1 rfl rfl dX9_refine_123 ?_
                    refine vv_iload X 0 rfl dX9_refine_124 ?_
                    refine vv_iload X 5 rfl dX9_refine_126 ?_
                    refine vv_callVV (As := [.int (zI (M 106 (23 + k))), .int (zI (M 106 (29 + x.toNat)))]) (st := []) (Nf := 20) X 2 (c_X9_takes l D cA had M_67 (M 106 (23 + k)) (M 106 (29 + x.toNat)) (rfF (fun k => M 106 (23 + k)) (fun k => M 106 (29 + k)) x.toNat a b k) (by have := hwk (by omega); omega) (by have := hwk (by omega); omega) (by omega) (Or.inr (by omega)) (hF0) (hS) (hm7)) gX9_refine_X9_takes rfl (by decide +kernel) ⟨by decide, by decide⟩ (Nat.le_of_ble_eq_true rfl) ⟨by decide, by decide⟩ rfl (by decide) sh_105 rfl rfl dX9_refine_128 (fun Mt qt => ?_)
                    obtain ⟨tE, tk, tS, tm⟩ := qt
                    refine vv_goto (tgt := 158) X (by decide) dX9_refine_131 ?_
                    skip
                    refine vv_iinc (lv' := [(6, .int (zI (a6 + 1))), (7, .int (zI (M 106 (23 + k)))), (0, .ref (ad 105)), (1, .int (zI x)), (2, .int (zI a)), (3, .int (zI b)), (4, .int (zI (M 106 (29 + x.toNat)))), (5, .int (zI wd))]) X 7 rfl (by decide) rfl dX9_refine_158 ?_
                    refine vv_goto (tgt := 67) X (by decide) dX9_refine_161 ?_
                    refine vv_sub (lv' := [(0, .ref (ad 105)), (1, .int (zI x)), (2, .int (zI a)), (3, .int (zI b)), (4, .int (zI (M 106 (29 + x.toNat)))), (5, .int (zI wd)), (6, .int (zI (a6 + 1)))]) [2, 3, 4, 5, 6, 7, 0] rfl ?_
                    exact ih_67 Mt (k + 1) wd (a6 + 1) hwd (by omega) (by omega) (eqx_tr hE (eqx_mono tE (by decide))) (fun q h => by rw [tk q h]; exact hq q h) (by rw [hrs, if_pos (by omega), if_pos (by omega)]; rw [show k = x.toNat by omega] at tS ⊢; exact tS) (by split at hmm <;> (repeat' split) <;> omega) (by omega)
                · skip
                  refine vv_aload_n X 1 rfl rfl dX9_refine_96 ?_
                  refine vv_iload X 0 rfl dX9_refine_97 ?_
                  refine vv_iload X 6 rfl dX9_refine_99 ?_
                  refine vv_imul X dX9_refine_101 ?_
                  refine vv_aload_n X 1 rfl rfl dX9_refine_102 ?_
                  refine vv_getr (Nf := 20) (ref := (TX9 0).1) X (by decide) sh_105 rfl 0 (by decide) u_X9_refine_9 k_X9_refine_7 rfl rfl dX9_refine_103 ?_
                  refine vv_bipush (n := 29) X (by decide) dX9_refine_106 ?_
                  refine vv_iload X 7 rfl dX9_refine_108 ?_
                  refine vv_iadd X dX9_refine_110 ?_
                  refine vv_iald (z := (M 106 (29 + k))) X (by decide) sh_106 (by decide) (by omega) (by first | (rw [h7]; done) | (rw [h7]; exact (show M_67 106 (29 + k) = M 106 (29 + k) from by rw [e_67_106]))) dX9_refine_111 ?_
                  refine vv_callVV (As := [.int (zI ((M 106 (23 + k)) * wd)), .int (zI (M 106 (29 + k)))]) (st := []) (Nf := 20) X 2 (c_X9_takes l D cA had M_67 ((M 106 (23 + k)) * wd) (M 106 (29 + k)) (rfF (fun k => M 106 (23 + k)) (fun k => M 106 (29 + k)) x.toNat a b k) (by have := hwk (by omega); have := mulB (a := M 106 (23 + k)) (A := 999) (b := wd) (B := 100) (by omega) (by omega); omega) (by have := hwk (by omega); have := mulB (a := M 106 (23 + k)) (A := 999) (b := wd) (B := 100) (by omega) (by omega); omega) (by have := hwk (by omega); omega) (Or.inr (by have := hwk (by omega); omega)) (hF0) (hS) (hm7)) gX9_refine_X9_takes rfl (by decide +kernel) ⟨by decide, by decide⟩ (Nat.le_of_ble_eq_true rfl) ⟨by decide, by decide⟩ rfl (by decide) sh_105 rfl rfl dX9_refine_112 (fun Mt qt => ?_)
                  obtain ⟨tE, tk, tS, tm⟩ := qt
                  refine vv_goto (tgt := 158) X (by decide) dX9_refine_115 ?_
                  skip
                  refine vv_iinc (lv' := [(6, .int (zI (a6 + 1))), (7, .int (zI (M 106 (23 + k)))), (0, .ref (ad 105)), (1, .int (zI x)), (2, .int (zI a)), (3, .int (zI b)), (4, .int (zI (M 106 (29 + x.toNat)))), (5, .int (zI wd))]) X 7 rfl (by decide) rfl dX9_refine_158 ?_
                  refine vv_goto (tgt := 67) X (by decide) dX9_refine_161 ?_
                  refine vv_sub (lv' := [(0, .ref (ad 105)), (1, .int (zI x)), (2, .int (zI a)), (3, .int (zI b)), (4, .int (zI (M 106 (29 + x.toNat)))), (5, .int (zI wd)), (6, .int (zI (a6 + 1)))]) [2, 3, 4, 5, 6, 7, 0] rfl ?_
                  exact ih_67 Mt (k + 1) wd (a6 + 1) hwd (by omega) (by omega) (eqx_tr hE (eqx_mono tE (by decide))) (fun q h => by rw [tk q h]; exact hq q h) (by rw [hrs, if_neg (by omega), ← hwd]; exact tS) (by split at hmm <;> (repeat' split) <;> omega) (by omega)
          refine vv_sub (lv' := [(0, .ref (ad 105)), (1, .int (zI x)), (2, .int (zI a)), (3, .int (zI b)), (4, .int (zI (M 106 (29 + x.toNat)))), (5, .int (zI 1)), (6, .int (zI 0))]) [3, 4, 5, 6, 2, 1, 0] rfl ?_
          exact loop_67 _ (up2 M 105 9 0) 0 1 0 (by rw [if_pos (by omega)]) rfl (by omega) (eqx_up _ _ (eqx_rf _ _) (by decide)) (fun q h => up2_m _ _ _ h) (by rw [up2_s]; exact SplitOf_0) (by rw [up2_s, if_neg (by omega)]; decide) (Nat.lt_succ_self _)
      · skip
        have hrb : ¬ (M 106 (29 + x.toNat) ≤ b ∧ b ≤ 100) := fun q => by rw [if_pos q] at e_z36; omega
        refine vv_bipush (n := (-2)) X (by decide) dX9_refine_42 ?_
        exact vv_iret X hm (rChg_no hHi (by decide) ⟨fun q => absurd hin q, fun _ => ⟨fun _ => ⟨rfl, eqA_rf _⟩, fun q => absurd q.2 hrb⟩⟩ (eqx_rf _ _) rfl rfl) dX9_refine_44
  · skip
    have hin : ¬ (0 ≤ x ∧ x < M 106 2) := fun q => by rw [if_pos q] at e_z2; omega
    refine vv_iconst (n := (-1)) X dX9_refine_8 ?_
    exact vv_iret X hm (rChg_no hHi (by decide) ⟨fun _ => ⟨rfl, eqA_rf _⟩, fun q => absurd q hin⟩ (eqx_rf _ _) rfl rfl) dX9_refine_9
theorem u_X9_join_9 : ∀ w ∈ u_ws RX9 TX9 20, w ∈ wsX9_join := by decide +kernel
theorem k_X9_join_7 : Cond.fieldLink yX9_join.cls 7 (TX9 0).1 (TX9 0).2.1 (TX9 0).2.2.1 ∈ wsX9_join := by decide +kernel
theorem k_X9_join_72 : Cond.fieldLink yX9_join.cls 72 (TX9 9).1 (TX9 9).2.1 (TX9 9).2.2.1 ∈ wsX9_join := by decide +kernel
set_option maxRecDepth 100000 in
set_option maxHeartbeats 4000000 in
theorem c_X9_join (l : Launch) (D : va_G) {ad : Nat → Nat} (cA : Nat → ClassId) (had : adok ad) (M : Mem) (x : Int) (hx : -2147483648 ≤ x ∧ x ≤ 2147483647) (hw : RW M) : CtI l yX9_join wsX9_join 2 47 D ad cA [.ref (ad 105), .int (zI x)] M (fun z M1 => rChg (opJn x) (M 105 6) M z M1) := by
  refine CtI.of (cc := cX9_join) (maxL := 5) (ret := (some .int)) had (by decide) rfl (Nat.le_of_ble_eq_true rfl) ?_
  intro p e s m args below meth c X hm
  show VV p l e { frames := 2, cells := 0, slots := 0, locals := 47 } s m args below meth c 5 D ad cA (Afr ad s.heap.size) 0 0 (QI below args s D ad cA (fun z M1 => rChg (opJn x) (M 105 6) M z M1)) M 0 [(0, .ref (ad 105)), (1, .int (zI x))] []
  have hw0 := hw
  obtain ⟨hwA, hHi, hwh⟩ := hw
  have hW : rWR M := hwA.2.1
  have hn5 : 0 ≤ M 106 1 ∧ M 106 1 ≤ 5 := by
    have q1 := hW.2.1
    have q2 := hW.1
    omega
  have hsm : 1 ≤ M 106 2 ∧ M 106 2 ≤ 6 := WFs_pos hwA.2.2
  have hwb : ∀ k : Nat, (k : Int) < M 106 2 → (1 ≤ M 106 (23 + k) ∧ M 106 (23 + k) ≤ 999) ∧ (0 ≤ M 106 (29 + k) ∧ M 106 (29 + k) ≤ 100) := fun k hk => WFs_b hwA.2.2 hk
  have hp9 : 1 ≤ M 106 0 ∧ M 106 0 ≤ 99 := hwA.1
  refine vv_aload_n X 0 rfl rfl dX9_join_0 ?_
  refine vv_iload_n X 1 rfl rfl dX9_join_1 ?_
  refine vv_callVI (As := [.int (zI x)]) (st := []) (Nf := 20) X 1 (c_X9_isPart l D cA had M x (by omega) (by omega)) gX9_join_X9_isPart rfl (by decide +kernel) ⟨by decide, by decide⟩ (Nat.le_of_ble_eq_true rfl) ⟨by decide, by decide⟩ rfl (by decide) sh_105 rfl rfl dX9_join_2 (fun z2 Mc2 q_2 => ?_)
  obtain ⟨e_z2, g_z2⟩ := q_2
  have g_z2 := g_z2.symm
  subst g_z2
  refine vv_if_eq (tgt := 18) X (by rw [e_z2]; split <;> omega) dX9_join_5 (by decide) (fun c_5 => ?_) (fun c_5 => ?_)
  · skip
    have hin : ¬ (0 ≤ x ∧ x + 1 < M 106 2) := fun q => by rw [if_pos (show 0 ≤ x ∧ x < M 106 2 by omega)] at e_z2; omega
    refine vv_iconst (n := (-1)) X dX9_join_18 ?_
    exact vv_iret X hm (rChg_no hHi (by decide) ⟨fun _ => ⟨rfl, eqA_rf _⟩, fun q => absurd q hin⟩ (eqx_rf _ _) rfl rfl) dX9_join_19
  · skip
    have hi1 : 0 ≤ x ∧ x < M 106 2 := Classical.byContradiction fun q => by rw [if_neg q] at e_z2; omega
    refine vv_aload_n X 0 rfl rfl dX9_join_8 ?_
    refine vv_iload_n X 1 rfl rfl dX9_join_9 ?_
    refine vv_iconst (n := 1) X dX9_join_10 ?_
    refine vv_iadd X dX9_join_11 ?_
    refine vv_callVI (As := [.int (zI (x + 1))]) (st := []) (Nf := 20) X 1 (c_X9_isPart l D cA had M (x + 1) (by omega) (by omega)) gX9_join_X9_isPart rfl (by decide +kernel) ⟨by decide, by decide⟩ (Nat.le_of_ble_eq_true rfl) ⟨by decide, by decide⟩ rfl (by decide) sh_105 rfl rfl dX9_join_12 (fun z12 Mc12 q_12 => ?_)
    obtain ⟨e_z12, g_z12⟩ := q_12
    have g_z12 := g_z12.symm
    subst g_z12
    refine vv_if_ne (tgt := 20) X (by rw [e_z12]; split <;> omega) dX9_join_15 (by decide) (fun c_15 => ?_) (fun c_15 => ?_)
    · skip
      have hin : 0 ≤ x ∧ x + 1 < M 106 2 := Classical.byContradiction fun q => by rw [if_neg (by omega)] at e_z12; omega
      have hwx := hwb x.toNat (by omega)
      have hwy := hwb (x.toNat + 1) (by omega)
      have m1 := mulB (a := M 106 (23 + x.toNat)) (A := 999) (b := M 106 (29 + x.toNat)) (B := 100) (by omega) (by omega)
      have m2 := mulB (a := M 106 (23 + (x.toNat + 1))) (A := 999) (b := M 106 (29 + (x.toNat + 1))) (B := 100) (by omega) (by omega)
      refine vv_aload_n X 0 rfl rfl dX9_join_20 ?_
      refine vv_getr (Nf := 20) (ref := (TX9 0).1) X (by decide) sh_105 rfl 0 (by decide) u_X9_join_9 k_X9_join_7 rfl rfl dX9_join_21 ?_
      refine vv_bipush (n := 23) X (by decide) dX9_join_24 ?_
      refine vv_iload_n X 1 rfl rfl dX9_join_26 ?_
      refine vv_iadd X dX9_join_27 ?_
      refine vv_iald (z := (M 106 (23 + x.toNat))) X (by decide) sh_106 (by decide) (by omega) (by first | (rw [show (23 + x).toNat = 23 + x.toNat by omega]; done) | (rw [show (23 + x).toNat = 23 + x.toNat by omega]; exact (rfl))) dX9_join_28 ?_
      refine vv_aload_n X 0 rfl rfl dX9_join_29 ?_
      refine vv_getr (Nf := 20) (ref := (TX9 0).1) X (by decide) sh_105 rfl 0 (by decide) u_X9_join_9 k_X9_join_7 rfl rfl dX9_join_30 ?_
      refine vv_bipush (n := 23) X (by decide) dX9_join_33 ?_
      refine vv_iload_n X 1 rfl rfl dX9_join_35 ?_
      refine vv_iadd X dX9_join_36 ?_
      refine vv_iconst (n := 1) X dX9_join_37 ?_
      refine vv_iadd X dX9_join_38 ?_
      refine vv_iald (z := (M 106 (23 + (x.toNat + 1)))) X (by decide) sh_106 (by decide) (by omega) (by first | (rw [show (23 + x + 1).toNat = 23 + (x.toNat + 1) by omega]; done) | (rw [show (23 + x + 1).toNat = 23 + (x.toNat + 1) by omega]; exact (rfl))) dX9_join_39 ?_
      refine vv_iadd X dX9_join_40 ?_
      refine vv_istore_n (lv' := [(2, .int (zI ((M 106 (23 + x.toNat)) + (M 106 (23 + (x.toNat + 1)))))), (0, .ref (ad 105)), (1, .int (zI x))]) X rfl (by decide) rfl dX9_join_41 ?_
      refine vv_aload_n X 1 rfl rfl dX9_join_42 ?_
      refine vv_getr (Nf := 20) (ref := (TX9 0).1) X (by decide) sh_105 rfl 0 (by decide) u_X9_join_9 k_X9_join_7 rfl rfl dX9_join_43 ?_
      refine vv_bipush (n := 23) X (by decide) dX9_join_46 ?_
      refine vv_iload_n X 2 rfl rfl dX9_join_48 ?_
      refine vv_iadd X dX9_join_49 ?_
      refine vv_iald (z := (M 106 (23 + x.toNat))) X (by decide) sh_106 (by decide) (by omega) (by first | (rw [show (23 + x).toNat = 23 + x.toNat by omega]; done) | (rw [show (23 + x).toNat = 23 + x.toNat by omega]; exact (rfl))) dX9_join_50 ?_
      refine vv_aload_n X 1 rfl rfl dX9_join_51 ?_
      refine vv_getr (Nf := 20) (ref := (TX9 0).1) X (by decide) sh_105 rfl 0 (by decide) u_X9_join_9 k_X9_join_7 rfl rfl dX9_join_52 ?_
      refine vv_bipush (n := 29) X (by decide) dX9_join_55 ?_
      refine vv_iload_n X 2 rfl rfl dX9_join_57 ?_
      refine vv_iadd X dX9_join_58 ?_
      refine vv_iald (z := (M 106 (29 + x.toNat))) X (by decide) sh_106 (by decide) (by omega) (by first | (rw [show (29 + x).toNat = 29 + x.toNat by omega]; done) | (rw [show (29 + x).toNat = 29 + x.toNat by omega]; exact (rfl))) dX9_join_59 ?_
      refine vv_imul X dX9_join_60 ?_
      refine vv_aload_n X 1 rfl rfl dX9_join_61 ?_
      refine vv_getr (Nf := 20) (ref := (TX9 0).1) X (by decide) sh_105 rfl 0 (by decide) u_X9_join_9 k_X9_join_7 rfl rfl dX9_join_62 ?_
      refine vv_bipush (n := 23) X (by decide) dX9_join_65 ?_
      refine vv_iload_n X 2 rfl rfl dX9_join_67 ?_
      refine vv_iadd X dX9_join_68 ?_
      refine vv_iconst (n := 1) X dX9_join_69 ?_
      refine vv_iadd X dX9_join_70 ?_
      refine vv_iald (z := (M 106 (23 + (x.toNat + 1)))) X (by decide) sh_106 (by decide) (by omega) (by first | (rw [show (23 + x + 1).toNat = 23 + (x.toNat + 1) by omega]; done) | (rw [show (23 + x + 1).toNat = 23 + (x.toNat + 1) by omega]; exact (rfl))) dX9_join_71 ?_
      refine vv_aload_n X 1 rfl rfl dX9_join_72 ?_
      refine vv_getr (Nf := 20) (ref := (TX9 0).1) X (by decide) sh_105 rfl 0 (by decide) u_X9_join_9 k_X9_join_7 rfl rfl dX9_join_73 ?_
      refine vv_bipush (n := 29) X (by decide) dX9_join_76 ?_
      refine vv_iload_n X 2 rfl rfl dX9_join_78 ?_
      refine vv_iadd X dX9_join_79 ?_
      refine vv_iconst (n := 1) X dX9_join_80 ?_
      refine vv_iadd X dX9_join_81 ?_
      refine vv_iald (z := (M 106 (29 + (x.toNat + 1)))) X (by decide) sh_106 (by decide) (by omega) (by first | (rw [show (29 + x + 1).toNat = 29 + (x.toNat + 1) by omega]; done) | (rw [show (29 + x + 1).toNat = 29 + (x.toNat + 1) by omega]; exact (rfl))) dX9_join_82 ?_
      refine vv_imul X dX9_join_83 ?_
      refine vv_iadd X dX9_join_84 ?_
      refine vv_istore_n (lv' := [(3, .int (zI (((M 106 (23 + x.toNat)) * (M 106 (29 + x.toNat))) + ((M 106 (23 + (x.toNat + 1))) * (M 106 (29 + (x.toNat + 1))))))), (2, .int (zI ((M 106 (23 + x.toNat)) + (M 106 (23 + (x.toNat + 1)))))), (0, .ref (ad 105)), (1, .int (zI x))]) X rfl (by decide) rfl dX9_join_85 ?_
      obtain ⟨jwt, ejw⟩ : ∃ q : Int, q = M 106 (23 + x.toNat) + M 106 (23 + (x.toNat + 1)) := ⟨_, rfl⟩
      obtain ⟨jmo, ejm⟩ : ∃ q : Int, q = M 106 (23 + x.toNat) * M 106 (29 + x.toNat) + M 106 (23 + (x.toNat + 1)) * M 106 (29 + (x.toNat + 1)) := ⟨_, rfl⟩
      rw [← ejw, ← ejm]
      have eW : jnW (aR M) x.toNat = jwt := ejw.symm
      have eM : jnM (aR M) x.toNat = jmo := ejm.symm
      refine vv_iload_n X 0 rfl rfl dX9_join_86 ?_
      refine vv_iload_n X 1 rfl rfl dX9_join_87 ?_
      refine vv_irem X (by omega) (by omega) (by omega) dX9_join_88 ?_
      refine vv_if_eq (tgt := 95) X (by have := gcdM (x := jmo) (y := jwt) (by omega) (by omega); omega) dX9_join_89 (by decide) (fun c_89 => ?_) (fun c_89 => ?_)
      · skip
        have hmid : 0 ≤ jmo.tdiv jwt ∧ jmo.tdiv jwt ≤ 100 := by
          rw [ejm, ejw]
          refine jn_rng hwx.1 hwy.1 hwx.2 hwy.2 ?_
          rw [← ejm, ← ejw]
          exact c_89
        refine vv_aload_n X 2 rfl rfl dX9_join_95 ?_
        refine vv_iconst (n := 0) X dX9_join_96 ?_
        refine vv_puti (Nf := 20) (ref := (TX9 9).1) X (by decide) sh_105 rfl 9 (by decide) u_X9_join_9 k_X9_join_72 rfl tyX9_ok nmX9 rfl (by decide +kernel) rfl rfl dX9_join_97 ?_
        refine vv_aload_n X 2 rfl rfl dX9_join_100 ?_
        refine vv_iload_n X 1 rfl rfl dX9_join_101 ?_
        refine vv_iload_n X 0 rfl rfl dX9_join_102 ?_
        refine vv_iload_n X 1 rfl rfl dX9_join_103 ?_
        refine vv_idiv X (by omega) (by omega) (by omega) dX9_join_104 ?_
        refine vv_callVV (As := [.int (zI jwt), .int (zI (Int.tdiv jmo jwt))]) (st := []) (Nf := 20) X 2 (c_X9_takes l D cA had (up2 M 105 9 0) jwt (Int.tdiv jmo jwt) (fun _ => 0) (by omega) (by omega) (by omega) (Or.inr (by omega)) (fun _ => Int.le_refl _) (by rw [up2_s]; exact SplitOf_0) (by rw [up2_s]; decide)) gX9_join_X9_takes rfl (by decide +kernel) ⟨by decide, by decide⟩ (Nat.le_of_ble_eq_true rfl) ⟨by decide, by decide⟩ rfl (by decide) sh_105 rfl rfl dX9_join_105 (fun Mt qt => ?_)
        obtain ⟨tE, tk, tS, tm⟩ := qt
        rw [up2_s] at tm
        refine vv_iconst (n := 0) X dX9_join_108 ?_
        refine vv_istore (lv' := [(4, .int (zI 0)), (3, .int (zI jmo)), (2, .int (zI jwt)), (0, .ref (ad 105)), (1, .int (zI x))]) X (by decide) rfl dX9_join_109 ?_
        have loop_111 : ∀ (n : Nat) (M_111 : Mem) (k : Nat) (a4 : Int), a4 = (k : Int) → (k : Int) ≤ M 106 2 → eqx M M_111 [105, 111, 112] → (∀ q : Nat, q ≠ 9 → M_111 105 q = M 105 q) → SplitOf (jF (fun k => M 106 (23 + k)) (fun k => M 106 (29 + k)) x.toNat (jmo.tdiv jwt) jwt k) (M_111 105 9) (M_111 111) (M_111 112) → M_111 105 9 ≤ (k : Int) + 1 → (M 106 2 - a4).toNat < n → VV p l e { frames := 2, cells := 0, slots := 0, locals := 47 } s m args below meth c 5 D ad cA (Afr ad s.heap.size) 0 0 (QI below args s D ad cA (fun z M1 => rChg (opJn x) (M 105 6) M z M1)) M_111 111 [(0, .ref (ad 105)), (1, .int (zI x)), (2, .int (zI jwt)), (3, .int (zI jmo)), (4, .int (zI a4))] [] := by
          intro n
          induction n with
          | zero => intro M_111 k a4 h1 hk hE hq hS hmm hn; exact absurd hn (Nat.not_lt_zero _)
          | succ n ih_111 =>
            intro M_111 k a4 h1 hk hE hq hS hmm hn
            have e_111_106 : M_111 106 = M 106 := hE 106 (by decide)
            have h6 : (23 + a4).toNat = 23 + k := by omega
            have h7 : (29 + a4).toNat = 29 + k := by omega
            have hwk : (k : Int) < M 106 2 → (1 ≤ M 106 (23 + k) ∧ M 106 (23 + k) ≤ 999) ∧ (0 ≤ M 106 (29 + k) ∧ M 106 (29 + k) ≤ 100) := hwb k
            have hFb := jF_b (w := (fun k => M 106 (23 + k))) (p := (fun k => M 106 (29 + k))) (x := x.toNat) (md := jmo.tdiv jwt) (wt := jwt) (n := (M 106 2).toNat) (fun j hj => (hwb j (by omega)).1) (by omega) k (by omega)
            have hF0 : ∀ j, 0 ≤ jF (fun k => M 106 (23 + k)) (fun k => M 106 (29 + k)) x.toNat (jmo.tdiv jwt) jwt k j := fun j => (hFb j).1
            have hrs : (jF (fun k => M 106 (23 + k)) (fun k => M 106 (29 + k)) x.toNat (jmo.tdiv jwt) jwt (k + 1)) = if k = x.toNat ∨ k = x.toNat + 1 then (jF (fun k => M 106 (23 + k)) (fun k => M 106 (29 + k)) x.toNat (jmo.tdiv jwt) jwt k) else fadd (jF (fun k => M 106 (23 + k)) (fun k => M 106 (29 + k)) x.toNat (jmo.tdiv jwt) jwt k) (M 106 (29 + k)) (M 106 (23 + k)) := rfl
            refine vv_iload X 4 rfl dX9_join_111 ?_
            refine vv_aload_n X 0 rfl rfl dX9_join_113 ?_
            refine vv_getr (Nf := 20) (ref := (TX9 0).1) X (by decide) sh_105 rfl 0 (by decide) u_X9_join_9 k_X9_join_7 rfl rfl dX9_join_114 ?_
            refine vv_iconst (n := 2) X dX9_join_117 ?_
            refine vv_iald (z := (M 106 2)) X (by decide) sh_106 (by decide) (by omega) (show M_111 106 2 = M 106 2 from by rw [e_111_106]) dX9_join_118 ?_
            refine vv_icmp_ge (tgt := 164) X (by omega) (by omega) dX9_join_119 (by decide) (fun c_119 => ?_) (fun c_119 => ?_)
            · skip
              have ekn : k = (M 106 2).toNat := by omega
              have hm1 : 1 ≤ M_111 105 9 ∧ M_111 105 9 ≤ 8 := by
                refine ⟨?_, by omega⟩
                rw [hS.1]
                have p0 : 0 < jF (fun k => M 106 (23 + k)) (fun k => M 106 (29 + k)) x.toNat (jmo.tdiv jwt) jwt k (jmo.tdiv jwt).toNat := jF_pos (n := (M 106 2).toNat) (fun j hj => (hwb j (by omega)).1.1) (by omega) (by omega) k (by omega)
                have := cnt_lt (F := (jF (fun k => M 106 (23 + k)) (fun k => M 106 (29 + k)) x.toNat (jmo.tdiv jwt) jwt k)) (a := (jmo.tdiv jwt).toNat) (b := 101) (by omega) p0
                have := (cnt_b (jF (fun k => M 106 (23 + k)) (fun k => M 106 (29 + k)) x.toNat (jmo.tdiv jwt) jwt k) (jmo.tdiv jwt).toNat).1
                omega
              refine vv_aload_n X 0 rfl rfl dX9_join_164 ?_
              refine vv_callVI (As := []) (st := []) (Nf := 20) X 0 (c_X9_areWell l D cA had M_111 (jF (fun k => M 106 (23 + k)) (fun k => M 106 (29 + k)) x.toNat (jmo.tdiv jwt) jwt k) (hF0) (fun j => by have := hFb j; omega) (hS) (hm1)) gX9_join_X9_areWell rfl (by decide +kernel) ⟨by decide, by decide⟩ (Nat.le_of_ble_eq_true rfl) ⟨by decide, by decide⟩ rfl (by decide) sh_105 rfl rfl dX9_join_165 (fun zw Mw qw => ?_)
              obtain ⟨wo, wE, wS⟩ := qw
              have hEw : eqx M Mw [105, 111, 112] := eqx_tr hE (eqx_mono wE (by decide))
              have kw : ∀ k : Nat, k ≠ 9 → Mw 105 k = M 105 k := fun k q => by rw [wE 105 (by decide)]; exact hq k q
              have kw2 := kw 2 (by decide)
              have eAw : aR Mw = aR M := aR_eq (hEw 106 (by decide))
              have hzw : 0 ≤ zw ∧ zw ≤ 1 := by rcases wo with ⟨_, w⟩ | ⟨_, w⟩ <;> omega
              rw [ekn] at wo wS
              have hjn : ∀ j, j < 101 → (jF (fun k => M 106 (23 + k)) (fun k => M 106 (29 + k)) x.toNat (jmo.tdiv jwt) jwt (M 106 2).toNat) j = jnF (aR M) x.toNat j := fun j _ => by
                have := jF_jn (c := aR M) (x := x.toNat) (by show x.toNat + 1 < (M 106 2).toNat; omega) j
                rw [eW, eM] at this
                exact this
              have hc0 := (cnt_b (red (jF (fun k => M 106 (23 + k)) (fun k => M 106 (29 + k)) x.toNat (jmo.tdiv jwt) jwt (M 106 2).toNat)) 101).1
              have hm8 : Mw 105 9 ≤ 8 := by rw [wE 105 (by decide)]; exact hm1.2
              have hm0 : 0 ≤ Mw 105 9 := by rw [wS.1]; exact hc0
              refine vv_if_ne (tgt := 174) X (by omega) dX9_join_168 (by decide) (fun c_168 => ?_) (fun c_168 => ?_)
              · skip
                refine vv_aload_n X 0 rfl rfl dX9_join_174 ?_
                refine vv_callVV (As := []) (st := []) (Nf := 20) X 0 (c_X9_record l D cA had Mw (RW_pre hEw kw2 hw0)) gX9_join_X9_record rfl (by decide +kernel) ⟨by decide, by decide⟩ (Nat.le_of_ble_eq_true rfl) ⟨by decide, by decide⟩ rfl (by decide) sh_105 rfl rfl dX9_join_175 (fun Mr qr => ?_)
                obtain ⟨⟨rP, rH⟩, rE, rk⟩ := qr
                have r106 : Mr 106 = Mw 106 := rE 106 (by decide)
                have rA : aR Mr = aR Mw := aR_eq r106
                refine vv_aload_n X 0 rfl rfl dX9_join_178 ?_
                refine vv_callVV (As := []) (st := []) (Nf := 20) X 0 (c_X9_gives l D cA had Mr (by rw [rk 9 (by decide)]; omega)) gX9_join_X9_gives rfl (by decide +kernel) ⟨by decide, by decide⟩ (Nat.le_of_ble_eq_true rfl) ⟨by decide, by decide⟩ rfl (by decide) sh_105 rfl rfl dX9_join_179 (fun Mg qg => ?_)
                refine vv_aload_n X 0 rfl rfl dX9_join_182 ?_
                refine vv_geti (Nf := 20) (ref := (TX9 9).1) (z := (Mg 105 9)) X (by decide) sh_105 rfl 9 (by decide) u_X9_join_9 k_X9_join_72 rfl rfl (rfl) dX9_join_183 ?_
                exact vv_iret X hm (by
                  have hok : okF (red (jF (fun k => M 106 (23 + k)) (fun k => M 106 (29 + k)) x.toNat (jmo.tdiv jwt) jwt (M 106 2).toNat)) := by
                    rcases wo with ⟨w, _⟩ | ⟨_, w⟩
                    · exact w
                    · omega
                  obtain ⟨gE, gj⟩ := qg
                  have em : Mr 105 9 = Mw 105 9 := rk 9 (by decide)
                  have ew1 : Mr 111 = Mw 111 := rE 111 (by decide)
                  have ew2 : Mr 112 = Mw 112 := rE 112 (by decide)
                  have hc6 := hok.2
                  have hm9 := wS.1
                  have h := gives_A gj (by rw [r106, hEw 106 (by decide)]; exact hn5.2) (by omega)
                  rw [rA, em, ew1, ew2, eAw] at h
                  have ez : Mg 105 9 = Mw 105 9 := by rw [gE 105 (by decide), em]
                  have hz0 := (cnt_b (red (jF (fun k => M 106 (23 + k)) (fun k => M 106 (29 + k)) x.toNat (jmo.tdiv jwt) jwt (M 106 2).toNat)) 101).1
                  refine rChg_pre hEw kw2 (rChg_yes (Mr := Mr) rP rH rE (eqx_mono gE (by decide)) (by rw [gE 105 (by decide)]) (by rw [gE 105 (by decide), rk 6 (by decide)]; exact kw 6 (by decide)) (by omega) ?_)
                  rw [eAw, ez]
                  exact ⟨fun q => absurd hin q, fun _ => ⟨fun q => by rw [eW, eM] at q; omega, fun _ => ⟨fun g => absurd ((okF_cong (fun j hj => red_cong hjn hj)).mp hok) g, fun _ => ⟨_, _, _, SplitOf_cong wS (fun j hj => red_cong hjn hj), rfl, h⟩⟩⟩⟩) dX9_join_186
              · skip
                refine vv_bipush (n := (-4)) X (by decide) dX9_join_171 ?_
                exact vv_iret X hm (by
                  have hno : ¬ okF (red (jF (fun k => M 106 (23 + k)) (fun k => M 106 (29 + k)) x.toNat (jmo.tdiv jwt) jwt (M 106 2).toNat)) := by
                    rcases wo with ⟨_, w⟩ | ⟨w, _⟩
                    · omega
                    · exact w
                  exact rChg_pre hEw kw2 (by
                    rw [← kw 6 (by decide)]
                    refine rChg_no (by unfold HRi; rw [kw2]; exact hHi) (by decide) ?_ (eqx_rf _ _) rfl rfl
                    rw [eAw]
                    exact ⟨fun q => absurd hin q, fun _ => ⟨fun q => by rw [eW, eM] at q; omega, fun _ => ⟨fun _ => ⟨rfl, eqA_rf _⟩, fun g => absurd ((okF_cong (fun j hj => red_cong hjn hj)).mpr g) hno⟩⟩⟩)) dX9_join_173
            · skip
              refine vv_iload X 4 rfl dX9_join_122 ?_
              refine vv_iload_n X 1 rfl rfl dX9_join_124 ?_
              refine vv_iload_n X 1 rfl rfl dX9_join_125 ?_
              refine vv_iconst (n := 1) X dX9_join_126 ?_
              refine vv_iadd X dX9_join_127 ?_
              refine vv_callSI (As := [.int (zI a4), .int (zI x), .int (zI (x + 1))]) (st := []) X 3 (c_X9_within l D cA had M_111 a4 x (x + 1) (by omega) (by omega) (by omega)) gX9_join_X9_within rfl (by decide +kernel) ⟨by decide, by decide⟩ (Nat.le_of_ble_eq_true rfl) ⟨by decide, by decide⟩ rfl rfl dX9_join_128 (fun z128 Mc128 q_128 => ?_)
              obtain ⟨e_z128, g_z128⟩ := q_128
              have g_z128 := g_z128.symm
              subst g_z128
              refine vv_if_ne (tgt := 158) X (by rw [e_z128]; split <;> omega) dX9_join_131 (by decide) (fun c_131 => ?_) (fun c_131 => ?_)
              · skip
                have hbt : k = x.toNat ∨ k = x.toNat + 1 := by
                  have : x ≤ a4 ∧ a4 ≤ x + 1 := Classical.byContradiction fun q => by rw [if_neg q] at e_z128; omega
                  omega
                skip
                refine vv_iinc (lv' := [(4, .int (zI (a4 + 1))), (0, .ref (ad 105)), (1, .int (zI x)), (2, .int (zI jwt)), (3, .int (zI jmo))]) X 4 rfl (by decide) rfl dX9_join_158 ?_
                refine vv_goto (tgt := 111) X (by decide) dX9_join_161 ?_
                refine vv_sub (lv' := [(0, .ref (ad 105)), (1, .int (zI x)), (2, .int (zI jwt)), (3, .int (zI jmo)), (4, .int (zI (a4 + 1)))]) [1, 2, 3, 4, 0] rfl ?_
                exact ih_111 M_111 (k + 1) (a4 + 1) (by omega) (by omega) hE hq (by rw [hrs, if_pos hbt]; exact hS) (by omega) (by omega)
              · skip
                have hbt : ¬ (k = x.toNat ∨ k = x.toNat + 1) := fun q => by rw [if_pos (by omega)] at e_z128; omega
                refine vv_aload_n X 0 rfl rfl dX9_join_134 ?_
                refine vv_aload_n X 0 rfl rfl dX9_join_135 ?_
                refine vv_getr (Nf := 20) (ref := (TX9 0).1) X (by decide) sh_105 rfl 0 (by decide) u_X9_join_9 k_X9_join_7 rfl rfl dX9_join_136 ?_
                refine vv_bipush (n := 23) X (by decide) dX9_join_139 ?_
                refine vv_iload X 4 rfl dX9_join_141 ?_
                refine vv_iadd X dX9_join_143 ?_
                refine vv_iald (z := (M 106 (23 + k))) X (by decide) sh_106 (by decide) (by omega) (by first | (rw [h6]; done) | (rw [h6]; exact (show M_111 106 (23 + k) = M 106 (23 + k) from by rw [e_111_106]))) dX9_join_144 ?_
                refine vv_aload_n X 0 rfl rfl dX9_join_145 ?_
                refine vv_getr (Nf := 20) (ref := (TX9 0).1) X (by decide) sh_105 rfl 0 (by decide) u_X9_join_9 k_X9_join_7 rfl rfl dX9_join_146 ?_
                refine vv_bipush (n := 29) X (by decide) dX9_join_149 ?_
                refine vv_iload X 4 rfl dX9_join_151 ?_
                refine vv_iadd X dX9_join_153 ?_
                refine vv_iald (z := (M 106 (29 + k))) X (by decide) sh_106 (by decide) (by omega) (by first | (rw [h7]; done) | (rw [h7]; exact (show M_111 106 (29 + k) = M 106 (29 + k) from by rw [e_111_106]))) dX9_join_154 ?_
                refine vv_callVV (As := [.int (zI (M 106 (23 + k))), .int (zI (M 106 (29 + k)))]) (st := []) (Nf := 20) X 2 (c_X9_takes l D cA had M_111 (M 106 (23 + k)) (M 106 (29 + k)) (jF (fun k => M 106 (23 + k)) (fun k => M 106 (29 + k)) x.toNat (jmo.tdiv jwt) jwt k) (by have := hwk (by omega); omega) (by have := hwk (by omega); omega) (by have := hwk (by omega); omega) (Or.inr (by have := hwk (by omega); omega)) (hF0) (hS) (by omega)) gX9_join_X9_takes rfl (by decide +kernel) ⟨by decide, by decide⟩ (Nat.le_of_ble_eq_true rfl) ⟨by decide, by decide⟩ rfl (by decide) sh_105 rfl rfl dX9_join_155 (fun Mu qu => ?_)
                obtain ⟨uE, uk, uS, um⟩ := qu
                refine vv_iinc (lv' := [(4, .int (zI (a4 + 1))), (0, .ref (ad 105)), (1, .int (zI x)), (2, .int (zI jwt)), (3, .int (zI jmo))]) X 4 rfl (by decide) rfl dX9_join_158 ?_
                refine vv_goto (tgt := 111) X (by decide) dX9_join_161 ?_
                refine vv_sub (lv' := [(0, .ref (ad 105)), (1, .int (zI x)), (2, .int (zI jwt)), (3, .int (zI jmo)), (4, .int (zI (a4 + 1)))]) [1, 2, 3, 4, 0] rfl ?_
                exact ih_111 Mu (k + 1) (a4 + 1) (by omega) (by omega) (eqx_tr hE (eqx_mono uE (by decide))) (fun q h => by rw [uk q h]; exact hq q h) (by rw [hrs, if_neg hbt]; exact uS) (by omega) (by omega)
        refine vv_sub (lv' := [(0, .ref (ad 105)), (1, .int (zI x)), (2, .int (zI jwt)), (3, .int (zI jmo)), (4, .int (zI 0))]) [3, 4, 2, 1, 0] rfl ?_
        exact loop_111 _ Mt 0 0 rfl (by omega) (eqx_tr (eqx_up 9 0 (eqx_rf M _) (by decide)) (eqx_mono tE (by decide))) (fun q h => by rw [tk q h]; exact up2_m _ _ _ h) tS (by omega) (Nat.lt_succ_self _)
      · skip
        refine vv_bipush (n := (-5)) X (by decide) dX9_join_92 ?_
        exact vv_iret X hm (rChg_no hHi (by decide) ⟨fun q => absurd hin q, fun _ => ⟨fun _ => ⟨rfl, eqA_rf _⟩, fun q => by rw [eW, eM] at q; omega⟩⟩ (eqx_rf _ _) rfl rfl) dX9_join_94
    · skip
      have hin : ¬ (0 ≤ x ∧ x + 1 < M 106 2) := fun q => by rw [if_pos (by omega)] at e_z12; omega
      refine vv_iconst (n := (-1)) X dX9_join_18 ?_
      exact vv_iret X hm (rChg_no hHi (by decide) ⟨fun _ => ⟨rfl, eqA_rf _⟩, fun q => absurd q hin⟩ (eqx_rf _ _) rfl rfl) dX9_join_19
