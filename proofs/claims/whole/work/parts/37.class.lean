theorem u_X8_takeBest_0 : ∀ w ∈ u_ws RX0 TX0 7, w ∈ wsX8_takeBest := by decide +kernel
theorem u_X8_takeBest_7 : ∀ w ∈ u_ws RX7 TX7 3, w ∈ wsX8_takeBest := by decide +kernel
theorem u_X8_takeBest_8 : ∀ w ∈ u_ws RX8 TX8 9, w ∈ wsX8_takeBest := by decide +kernel
theorem k_X8_takeBest_10 : Cond.fieldLink yX8_takeBest.cls 10 (TX8 0).1 (TX8 0).2.1 (TX8 0).2.2.1 ∈ wsX8_takeBest := by decide +kernel
theorem k_X8_takeBest_41 : Cond.fieldLink yX8_takeBest.cls 41 (TX8 5).1 (TX8 5).2.1 (TX8 5).2.2.1 ∈ wsX8_takeBest := by decide +kernel
theorem k_X8_takeBest_48 : Cond.fieldLink yX8_takeBest.cls 48 (TX8 6).1 (TX8 6).2.1 (TX8 6).2.2.1 ∈ wsX8_takeBest := by decide +kernel
theorem k_X8_takeBest_73 : Cond.fieldLink yX8_takeBest.cls 73 (TX7 0).1 (TX7 0).2.1 (TX7 0).2.2.1 ∈ wsX8_takeBest := by decide +kernel
theorem k_X8_takeBest_158 : Cond.fieldLink yX8_takeBest.cls 158 (TX7 2).1 (TX7 2).2.1 (TX7 2).2.2.1 ∈ wsX8_takeBest := by decide +kernel
theorem k_X8_takeBest_187 : Cond.fieldLink yX8_takeBest.cls 187 (TX0 3).1 (TX0 3).2.1 (TX0 3).2.2.1 ∈ wsX8_takeBest := by decide +kernel
theorem k_X8_takeBest_190 : Cond.fieldLink yX8_takeBest.cls 190 (TX0 4).1 (TX0 4).2.1 (TX0 4).2.2.1 ∈ wsX8_takeBest := by decide +kernel
theorem k_X8_takeBest_193 : Cond.fieldLink yX8_takeBest.cls 193 (TX0 5).1 (TX0 5).2.1 (TX0 5).2.2.1 ∈ wsX8_takeBest := by decide +kernel
theorem k_X8_takeBest_196 : Cond.fieldLink yX8_takeBest.cls 196 (TX0 6).1 (TX0 6).2.1 (TX0 6).2.2.1 ∈ wsX8_takeBest := by decide +kernel
set_option maxRecDepth 100000 in
set_option maxHeartbeats 4000000 in
theorem c_X8_takeBest (l : Launch) (D : va_G) {ad : Nat → Nat} (cA : Nat → ClassId) (had : adok ad) (M : Mem) (hp : 1 ≤ M 0 2 ∧ M 0 2 ≤ 99) (hW : cWR M) : CtI l yX8_takeBest wsX8_takeBest 4 88 D ad cA [.ref (ad 90)] M (fun z M1 => opB (vC M 0) z (vC M1 0) ∧ eqx M M1 [6, 7, 8, 99, 100, 101, 102]) := by
  refine CtI.of (cc := cX8_takeBest) (maxL := 1) (ret := (some .int)) had (by decide) rfl (Nat.le_of_ble_eq_true rfl) ?_
  intro p e s m args below meth c X hm
  show VV p l e { frames := 4, cells := 0, slots := 0, locals := 88 } s m args below meth c 1 D ad cA (Afr ad s.heap.size) 0 0 (QI below args s D ad cA (fun z M1 => opB (vC M 0) z (vC M1 0) ∧ eqx M M1 [6, 7, 8, 99, 100, 101, 102])) M 0 [(0, .ref (ad 90))] []
  refine vv_aload_n X 0 rfl rfl dX8_takeBest_0 ?_
  refine vv_getr (Nf := 9) (ref := (TX8 6).1) X (by decide) sh_90 rfl 6 (by decide) u_X8_takeBest_8 k_X8_takeBest_48 rfl rfl dX8_takeBest_1 ?_
  refine vv_aload_n X 0 rfl rfl dX8_takeBest_4 ?_
  refine vv_getr (Nf := 9) (ref := (TX8 0).1) X (by decide) sh_90 rfl 0 (by decide) u_X8_takeBest_8 k_X8_takeBest_10 rfl rfl dX8_takeBest_5 ?_
  refine vv_getr (Nf := 3) (ref := (TX7 0).1) X (by decide) sh_0 rfl 0 (by decide) u_X8_takeBest_7 k_X8_takeBest_73 rfl rfl dX8_takeBest_8 ?_
  refine vv_callVV (As := [.ref (ad 1)]) (st := []) (Nf := 7) X 1 (c_X0_draw l D cA had M (by assumption)) gX8_takeBest_X0_draw rfl (by decide +kernel) ⟨by decide, by decide⟩ (Nat.le_of_ble_eq_true rfl) ⟨by decide, by decide⟩ rfl (by decide) sh_100 rfl rfl dX8_takeBest_11 (fun Mc11 q_11 => ?_)
  obtain ⟨E11, V11, H11, N11⟩ := q_11
  have e_Mc11_0 : Mc11 0 = M 0 := (E11 0 (by decide)).trans (show M 0 = M 0 from rfl)
  have e_Mc11_1 : Mc11 1 = M 1 := (E11 1 (by decide)).trans (show M 1 = M 1 from rfl)
  have e_Mc11_2 : Mc11 2 = M 2 := (E11 2 (by decide)).trans (show M 2 = M 2 from rfl)
  have e_Mc11_3 : Mc11 3 = M 3 := (E11 3 (by decide)).trans (show M 3 = M 3 from rfl)
  have e_Mc11_4 : Mc11 4 = M 4 := (E11 4 (by decide)).trans (show M 4 = M 4 from rfl)
  have e_Mc11_5 : Mc11 5 = M 5 := (E11 5 (by decide)).trans (show M 5 = M 5 from rfl)
  have e_Mc11_6 : Mc11 6 = M 6 := (E11 6 (by decide)).trans (show M 6 = M 6 from rfl)
  have e_Mc11_7 : Mc11 7 = M 7 := (E11 7 (by decide)).trans (show M 7 = M 7 from rfl)
  have e_Mc11_8 : Mc11 8 = M 8 := (E11 8 (by decide)).trans (show M 8 = M 8 from rfl)
  have e_Mc11_99 : Mc11 99 = M 99 := (E11 99 (by decide)).trans (show M 99 = M 99 from rfl)
  have e_Mc11_103 : Mc11 103 = M 103 := (E11 103 (by decide)).trans (show M 103 = M 103 from rfl)
  have e_Mc11_104 : Mc11 104 = M 104 := (E11 104 (by decide)).trans (show M 104 = M 104 from rfl)
  have hvb : ∀ y : Int, (0 ≤ y ∧ y ≤ 100) → -990 ≤ vM Mc11 y ∧ vM Mc11 y ≤ 990 := fun y hy => by
    have := V11 y.toNat (by omega)
    have h2 := vl_b (x := ((y.toNat : Nat) : Int)) hW.2
    show -990 ≤ Mc11 101 y.toNat ∧ Mc11 101 y.toNat ≤ 990
    rw [this]
    unfold cvl
    omega
  refine vv_aload_n X 0 rfl rfl dX8_takeBest_14 ?_
  refine vv_getr (Nf := 9) (ref := (TX8 6).1) X (by decide) sh_90 rfl 6 (by decide) u_X8_takeBest_8 k_X8_takeBest_48 rfl rfl dX8_takeBest_15 ?_
  refine vv_aload_n X 0 rfl rfl dX8_takeBest_18 ?_
  refine vv_getr (Nf := 9) (ref := (TX8 0).1) X (by decide) sh_90 rfl 0 (by decide) u_X8_takeBest_8 k_X8_takeBest_10 rfl rfl dX8_takeBest_19 ?_
  refine vv_geti (Nf := 3) (ref := (TX7 2).1) (z := (M 0 2)) X (by decide) sh_0 rfl 2 (by decide) u_X8_takeBest_7 k_X8_takeBest_158 rfl rfl (show Mc11 0 2 = M 0 2 from by rw [e_Mc11_0]) dX8_takeBest_22 ?_
  refine vv_callVV (As := [.int (zI (M 0 2))]) (st := []) (Nf := 7) X 1 (c_X0_aim l D cA had Mc11 (M 0 2) (by omega) (by omega) (H11) (hvb)) gX8_takeBest_X0_aim rfl (by decide +kernel) ⟨by decide, by decide⟩ (Nat.le_of_ble_eq_true rfl) ⟨by decide, by decide⟩ rfl (by decide) sh_100 rfl rfl dX8_takeBest_25 (fun Mc25 q_25 => ?_)
  obtain ⟨E25, C25, B25, L25, U25⟩ := q_25
  have e_Mc25_0 : Mc25 0 = M 0 := (E25 0 (by decide)).trans (show Mc11 0 = M 0 from e_Mc11_0)
  have e_Mc25_1 : Mc25 1 = M 1 := (E25 1 (by decide)).trans (show Mc11 1 = M 1 from e_Mc11_1)
  have e_Mc25_2 : Mc25 2 = M 2 := (E25 2 (by decide)).trans (show Mc11 2 = M 2 from e_Mc11_2)
  have e_Mc25_3 : Mc25 3 = M 3 := (E25 3 (by decide)).trans (show Mc11 3 = M 3 from e_Mc11_3)
  have e_Mc25_4 : Mc25 4 = M 4 := (E25 4 (by decide)).trans (show Mc11 4 = M 4 from e_Mc11_4)
  have e_Mc25_5 : Mc25 5 = M 5 := (E25 5 (by decide)).trans (show Mc11 5 = M 5 from e_Mc11_5)
  have e_Mc25_6 : Mc25 6 = M 6 := (E25 6 (by decide)).trans (show Mc11 6 = M 6 from e_Mc11_6)
  have e_Mc25_7 : Mc25 7 = M 7 := (E25 7 (by decide)).trans (show Mc11 7 = M 7 from e_Mc11_7)
  have e_Mc25_8 : Mc25 8 = M 8 := (E25 8 (by decide)).trans (show Mc11 8 = M 8 from e_Mc11_8)
  have e_Mc25_99 : Mc25 99 = M 99 := (E25 99 (by decide)).trans (show Mc11 99 = M 99 from e_Mc11_99)
  have e_Mc25_101 : Mc25 101 = Mc11 101 := (E25 101 (by decide)).trans (show Mc11 101 = Mc11 101 from rfl)
  have e_Mc25_102 : Mc25 102 = Mc11 102 := (E25 102 (by decide)).trans (show Mc11 102 = Mc11 102 from rfl)
  have e_Mc25_103 : Mc25 103 = M 103 := (E25 103 (by decide)).trans (show Mc11 103 = M 103 from e_Mc11_103)
  have e_Mc25_104 : Mc25 104 = M 104 := (E25 104 (by decide)).trans (show Mc11 104 = M 104 from e_Mc11_104)
  have hcu : CU M Mc25 (M 0 2) := CU_of (by omega) E11 V11 E25 B25 L25 U25
  have hok := hcu.2.2.1.1
  have hrl := okS_rng hok (show 0 ≤ M 0 2 ∧ M 0 2 ≤ 100 by omega)
  refine vv_aload_n X 0 rfl rfl dX8_takeBest_28 ?_
  refine vv_getr (Nf := 9) (ref := (TX8 5).1) X (by decide) sh_90 rfl 5 (by decide) u_X8_takeBest_8 k_X8_takeBest_41 rfl rfl dX8_takeBest_29 ?_
  refine vv_callVV (As := []) (st := []) (Nf := 1) X 0 (c_X3_clear l D cA had Mc25) gX8_takeBest_X3_clear rfl (by decide +kernel) ⟨by decide, by decide⟩ (Nat.le_of_ble_eq_true rfl) ⟨by decide, by decide⟩ rfl (by decide) sh_98 rfl rfl dX8_takeBest_32 (fun Mc32 q_32 => ?_)
  have q_32 := q_32.symm
  subst q_32
  refine vv_aload_n X 0 rfl rfl dX8_takeBest_35 ?_
  refine vv_getr (Nf := 9) (ref := (TX8 5).1) X (by decide) sh_90 rfl 5 (by decide) u_X8_takeBest_8 k_X8_takeBest_41 rfl rfl dX8_takeBest_36 ?_
  refine vv_aload_n X 0 rfl rfl dX8_takeBest_39 ?_
  refine vv_getr (Nf := 9) (ref := (TX8 6).1) X (by decide) sh_90 rfl 6 (by decide) u_X8_takeBest_8 k_X8_takeBest_48 rfl rfl dX8_takeBest_40 ?_
  refine vv_geti (Nf := 7) (ref := (TX0 3).1) (z := (Mc25 100 3)) X (by decide) sh_100 rfl 3 (by decide) u_X8_takeBest_0 k_X8_takeBest_187 rfl rfl (rfl) dX8_takeBest_43 ?_
  refine vv_aload_n X 0 rfl rfl dX8_takeBest_46 ?_
  refine vv_getr (Nf := 9) (ref := (TX8 6).1) X (by decide) sh_90 rfl 6 (by decide) u_X8_takeBest_8 k_X8_takeBest_48 rfl rfl dX8_takeBest_47 ?_
  refine vv_geti (Nf := 7) (ref := (TX0 5).1) (z := (Mc25 100 5)) X (by decide) sh_100 rfl 5 (by decide) u_X8_takeBest_0 k_X8_takeBest_193 rfl rfl (rfl) dX8_takeBest_50 ?_
  refine vv_callVV (As := [.int (zI (Mc25 100 3)), .int (zI (Mc25 100 5))]) (st := []) (Nf := 1) X 2 (c_X3_add l D cA had (stc Mc25 99 (fun j => if (j : Int) < 101 then 0 else Mc25 99 j)) (Mc25 100 3) (Mc25 100 5) (by omega)) gX8_takeBest_X3_add rfl (by decide +kernel) ⟨by decide, by decide⟩ (Nat.le_of_ble_eq_true rfl) ⟨by decide, by decide⟩ rfl (by decide) sh_98 rfl rfl dX8_takeBest_53 (fun Mb qb => ?_)
  refine vv_aload_n X 0 rfl rfl dX8_takeBest_56 ?_
  refine vv_getr (Nf := 9) (ref := (TX8 5).1) X (by decide) sh_90 rfl 5 (by decide) u_X8_takeBest_8 k_X8_takeBest_41 rfl rfl dX8_takeBest_57 ?_
  refine vv_aload_n X 0 rfl rfl dX8_takeBest_60 ?_
  refine vv_getr (Nf := 9) (ref := (TX8 6).1) X (by decide) sh_90 rfl 6 (by decide) u_X8_takeBest_8 k_X8_takeBest_48 rfl rfl dX8_takeBest_61 ?_
  refine vv_geti (Nf := 7) (ref := (TX0 4).1) (z := (Mc25 100 4)) X (by decide) sh_100 rfl 4 (by decide) u_X8_takeBest_0 k_X8_takeBest_190 rfl rfl (by rw [qb]; rfl) dX8_takeBest_64 ?_
  refine vv_aload_n X 0 rfl rfl dX8_takeBest_67 ?_
  refine vv_getr (Nf := 9) (ref := (TX8 6).1) X (by decide) sh_90 rfl 6 (by decide) u_X8_takeBest_8 k_X8_takeBest_48 rfl rfl dX8_takeBest_68 ?_
  refine vv_geti (Nf := 7) (ref := (TX0 6).1) (z := (Mc25 100 6)) X (by decide) sh_100 rfl 6 (by decide) u_X8_takeBest_0 k_X8_takeBest_196 rfl rfl (by rw [qb]; rfl) dX8_takeBest_71 ?_
  refine vv_callVV (As := [.int (zI (Mc25 100 4)), .int (zI (Mc25 100 6))]) (st := []) (Nf := 1) X 2 (c_X3_add l D cA had Mb (Mc25 100 4) (Mc25 100 6) (by omega)) gX8_takeBest_X3_add rfl (by decide +kernel) ⟨by decide, by decide⟩ (Nat.le_of_ble_eq_true rfl) ⟨by decide, by decide⟩ rfl (by decide) sh_98 rfl rfl dX8_takeBest_74 (fun Mc qc => ?_)
  obtain ⟨H, hH⟩ : ∃ H : Nat → Int, H = uz (uz (fun j => if (j : Int) < 101 then 0 else Mc25 99 j) (Mc25 100 3).toNat (0 + Mc25 100 5)) (Mc25 100 4).toNat (uz (fun j => if (j : Int) < 101 then 0 else Mc25 99 j) (Mc25 100 3).toNat (0 + Mc25 100 5) (Mc25 100 4).toNat + Mc25 100 6) := ⟨_, rfl⟩
  have hMc : Mc = stc Mc25 99 H := by
    rw [qc, qb, hH]
    simp only [up2_stc, stc_s]
    rw [if_pos (show (((Mc25 100 3).toNat : Nat) : Int) < 101 by omega)]
  have hFr : ∀ j, j < 101 → H j = bstF (M 0 2) (Mc25 100 3) (Mc25 100 4) j := fun j hj => by
    have := bst_uz (Z := fun j => if (j : Int) < 101 then 0 else Mc25 99 j) (x := M 0 2) (lo := Mc25 100 3) (hi := Mc25 100 4) (fun j hj => if_pos (by omega)) hrl.1.1 hrl.2.1 hj
    rw [← this, hH, ← hcu.2.2.2.1, ← hcu.2.2.2.2]
    rw [if_pos (show (((Mc25 100 3).toNat : Nat) : Int) < 101 by omega)]
  have hfb : ∀ j : Nat, j < 101 → 0 ≤ Mc 99 j ∧ Mc 99 j ≤ 1073741824 := fun j hj => by
    rw [hMc, stc_s, hFr j hj]
    have := bstF_b hok (show 0 ≤ M 0 2 ∧ M 0 2 ≤ 100 by omega) j
    omega
  refine vv_aload_n X 0 rfl rfl dX8_takeBest_77 ?_
  refine vv_callVI (As := []) (st := []) (Nf := 9) X 0 (c_X8_takeMix l D cA had Mc (hfb)) gX8_takeBest_X8_takeMix rfl (by decide +kernel) ⟨by decide, by decide⟩ (Nat.le_of_ble_eq_true rfl) ⟨by decide, by decide⟩ rfl (by decide) sh_90 rfl rfl dX8_takeBest_78 (fun z78 Md qd => ?_)
  exact vv_iret X hm (by
    obtain ⟨hO, hE⟩ := qd
    have hx2 : eqx M Mc [99, 100, 101, 102] := by rw [hMc]; exact eqx_stc _ (eqx_mono hcu.1 (by decide)) (by decide)
    have e9 : Mc 99 = H := by rw [hMc, stc_s]
    rw [e9] at hO
    refine ⟨⟨Mc25 100 3, Mc25 100 4, hcu.2.2.1, opF_cong hFr (opF_l (eqA_sy (vC_same (fun a _ _ => hx2 a (by simp; omega)))) hO)⟩, eqx_tr (eqx_mono hx2 (by decide)) (eqx_mono hE (by decide))⟩) dX8_takeBest_81
theorem u_X8_takeTold_4 : ∀ w ∈ u_ws RX4 TX4 6, w ∈ wsX8_takeTold := by decide +kernel
theorem u_X8_takeTold_7 : ∀ w ∈ u_ws RX7 TX7 3, w ∈ wsX8_takeTold := by decide +kernel
theorem u_X8_takeTold_8 : ∀ w ∈ u_ws RX8 TX8 9, w ∈ wsX8_takeTold := by decide +kernel
theorem k_X8_takeTold_10 : Cond.fieldLink yX8_takeTold.cls 10 (TX8 0).1 (TX8 0).2.1 (TX8 0).2.2.1 ∈ wsX8_takeTold := by decide +kernel
theorem k_X8_takeTold_34 : Cond.fieldLink yX8_takeTold.cls 34 (TX8 4).1 (TX8 4).2.1 (TX8 4).2.2.1 ∈ wsX8_takeTold := by decide +kernel
theorem k_X8_takeTold_41 : Cond.fieldLink yX8_takeTold.cls 41 (TX8 5).1 (TX8 5).2.1 (TX8 5).2.2.1 ∈ wsX8_takeTold := by decide +kernel
theorem k_X8_takeTold_158 : Cond.fieldLink yX8_takeTold.cls 158 (TX7 2).1 (TX7 2).2.1 (TX7 2).2.2.1 ∈ wsX8_takeTold := by decide +kernel
theorem k_X8_takeTold_245 : Cond.fieldLink yX8_takeTold.cls 245 (TX4 5).1 (TX4 5).2.1 (TX4 5).2.2.1 ∈ wsX8_takeTold := by decide +kernel
set_option maxRecDepth 100000 in
set_option maxHeartbeats 4000000 in
theorem c_X8_takeTold (l : Launch) (D : va_G) {ad : Nat → Nat} (cA : Nat → ClassId) (had : adok ad) (M : Mem) (nt : Nat) (hnt : 1 ≤ nt ∧ nt ≤ 6) (ht : M 95 5 = 2 * (nt : Int)) (hb : ∀ j : Nat, j < 2 * nt → -2147483648 ≤ M 97 j ∧ M 97 j ≤ 2147483647) (hp : 1 ≤ M 0 2 ∧ M 0 2 ≤ 99) : CtI l yX8_takeTold wsX8_takeTold 4 88 D ad cA [.ref (ad 90)] M (fun z M1 => opS (tbad (M 97) nt) (tld (M 97) nt) (vC M 0) z (vC M1 0) ∧ eqx M M1 [6, 7, 8, 99]) := by
  refine CtI.of (cc := cX8_takeTold) (maxL := 4) (ret := (some .int)) had (by decide) rfl (Nat.le_of_ble_eq_true rfl) ?_
  intro p e s m args below meth c X hm
  show VV p l e { frames := 4, cells := 0, slots := 0, locals := 88 } s m args below meth c 4 D ad cA (Afr ad s.heap.size) 0 0 (QI below args s D ad cA (fun z M1 => opS (tbad (M 97) nt) (tld (M 97) nt) (vC M 0) z (vC M1 0) ∧ eqx M M1 [6, 7, 8, 99])) M 0 [(0, .ref (ad 90))] []
  refine vv_aload_n X 0 rfl rfl dX8_takeTold_0 ?_
  refine vv_getr (Nf := 9) (ref := (TX8 5).1) X (by decide) sh_90 rfl 5 (by decide) u_X8_takeTold_8 k_X8_takeTold_41 rfl rfl dX8_takeTold_1 ?_
  refine vv_callVV (As := []) (st := []) (Nf := 1) X 0 (c_X3_clear l D cA had M) gX8_takeTold_X3_clear rfl (by decide +kernel) ⟨by decide, by decide⟩ (Nat.le_of_ble_eq_true rfl) ⟨by decide, by decide⟩ rfl (by decide) sh_98 rfl rfl dX8_takeTold_4 (fun Mc4 q_4 => ?_)
  have q_4 := q_4.symm
  subst q_4
  refine vv_iconst (n := 0) X dX8_takeTold_7 ?_
  refine vv_istore_n (lv' := [(1, .int (zI 0)), (0, .ref (ad 90))]) X rfl (by decide) rfl dX8_takeTold_8 ?_
  have loop_9 : ∀ (n : Nat) (M_9 : Mem) (k : Nat) (G : Nat → Int) (a1 : Int), a1 = 2 * (k : Int) → k ≤ nt → M_9 = stc M 99 G → (∀ j, j < 101 → G j = tld (M 97) k j) → (∀ i, i < k → (1 ≤ M 97 (2 * i) ∧ M 97 (2 * i) ≤ 999) ∧ (0 ≤ M 97 (2 * i + 1) ∧ M 97 (2 * i + 1) ≤ 100)) → nt - k < n → VV p l e { frames := 4, cells := 0, slots := 0, locals := 88 } s m args below meth c 4 D ad cA (Afr ad s.heap.size) 0 0 (QI below args s D ad cA (fun z M1 => opS (tbad (M 97) nt) (tld (M 97) nt) (vC M 0) z (vC M1 0) ∧ eqx M M1 [6, 7, 8, 99])) M_9 9 [(0, .ref (ad 90)), (1, .int (zI a1))] [] := by
    intro n
    induction n with
    | zero => intro M_9 k G a1 h1 hk hM hG hgood hn; exact absurd hn (Nat.not_lt_zero _)
    | succ n ih_9 =>
      intro M_9 k G a1 h1 hk hM hG hgood hn
      have e_9_0 : M_9 0 = M 0 := by rw [hM]; rfl
      have e_9_6 : M_9 6 = M 6 := by rw [hM]; rfl
      have e_9_95 : M_9 95 = M 95 := by rw [hM]; rfl
      have e_9_97 : M_9 97 = M 97 := by rw [hM]; rfl
      have e9 : M_9 99 = G := by rw [hM]; exact stc_s _ _ _
      have i1 : k < nt → a1.toNat = 2 * k := fun _ => by omega
      have i2 : k < nt → (a1 + 1).toNat = 2 * k + 1 := fun _ => by omega
      have hb1 := fun q : k < nt => hb (2 * k) (by omega)
      have hb2 := fun q : k < nt => hb (2 * k + 1) (by omega)
      refine vv_iload_n X 1 rfl rfl dX8_takeTold_9 ?_
      refine vv_aload_n X 0 rfl rfl dX8_takeTold_10 ?_
      refine vv_getr (Nf := 9) (ref := (TX8 4).1) X (by decide) sh_90 rfl 4 (by decide) u_X8_takeTold_8 k_X8_takeTold_34 rfl rfl dX8_takeTold_11 ?_
      refine vv_geti (Nf := 6) (ref := (TX4 5).1) (z := (M 95 5)) X (by decide) sh_95 rfl 5 (by decide) u_X8_takeTold_4 k_X8_takeTold_245 rfl rfl (show M_9 95 5 = M 95 5 from by rw [e_9_95]) dX8_takeTold_14 ?_
      refine vv_icmp_ge (tgt := 77) X (by omega) (by omega) dX8_takeTold_17 (by decide) (fun c_17 => ?_) (fun c_17 => ?_)
      · skip
        have ekn : k = nt := by omega
        subst ekn
        have hGb : ∀ j : Nat, j < 101 → 0 ≤ G j ∧ G j ≤ 5994 := fun j hj => by
          rw [hG j hj]
          exact SF_b (fun i hi => by have := hgood i hi; omega) (by omega)
        have hnb : ¬ tbad (M 97) k := fun ⟨i, hi, q⟩ => q (hgood i hi)
        refine vv_aload_n X 0 rfl rfl dX8_takeTold_77 ?_
        refine vv_getr (Nf := 9) (ref := (TX8 5).1) X (by decide) sh_90 rfl 5 (by decide) u_X8_takeTold_8 k_X8_takeTold_41 rfl rfl dX8_takeTold_78 ?_
        refine vv_callVV (As := []) (st := []) (Nf := 1) X 0 (c_X3_reduce l D cA had M_9 (fun j hj => by rw [e9]; have := hGb j hj; omega)) gX8_takeTold_X3_reduce rfl (by decide +kernel) ⟨by decide, by decide⟩ (Nat.le_of_ble_eq_true rfl) ⟨by decide, by decide⟩ rfl (by decide) sh_98 rfl rfl dX8_takeTold_81 (fun Mc81 q_81 => ?_)
        obtain ⟨G_81, g_81, hG_81⟩ := q_81
        have g_81 := g_81.symm
        subst g_81
        have hR : ∀ j, j < 101 → G_81 j = red (tld (M 97) k) j := fun j hj => by
          rw [hG_81 j hj, e9]
          exact red_cong hG hj
        have hRb : ∀ j : Nat, j < 101 → 0 ≤ G_81 j ∧ G_81 j ≤ 1073741824 := fun j hj => by
          rw [hG_81 j hj, e9]
          have := tdiv_b (A := 5994) (hGb j hj) (gfo_nn G 101)
          omega
        have hF0 : ∀ j, j < 101 → 0 ≤ tld (M 97) k j := fun j hj => by rw [← hG j hj]; exact (hGb j hj).1
        refine vv_aload_n X 0 rfl rfl dX8_takeTold_84 ?_
        refine vv_getr (Nf := 9) (ref := (TX8 5).1) X (by decide) sh_90 rfl 5 (by decide) u_X8_takeTold_8 k_X8_takeTold_41 rfl rfl dX8_takeTold_85 ?_
        refine vv_callVI (As := []) (st := []) (Nf := 1) X 0 (c_X3_fits l D cA had (stc M_9 99 G_81) (fun j hj => by rw [stc_s]; have := hRb j hj; omega)) gX8_takeTold_X3_fits rfl (by decide +kernel) ⟨by decide, by decide⟩ (Nat.le_of_ble_eq_true rfl) ⟨by decide, by decide⟩ rfl (by decide) sh_98 rfl rfl dX8_takeTold_88 (fun z88 Mc88 q_88 => ?_)
        obtain ⟨e_z88, g_z88⟩ := q_88
        have g_z88 := g_z88.symm
        subst g_z88
        refine vv_if_eq (tgt := 114) X (by rw [e_z88]; split <;> omega) dX8_takeTold_91 (by decide) (fun c_91 => ?_) (fun c_91 => ?_)
        · skip
          have hok : ¬ okF (red (tld (M 97) k)) := fun q => by
            have := (okF_cong hR).mpr q
            unfold okF at this
            rw [stc_s, if_pos this] at e_z88
            omega
          have hG2 : ∀ j, j < 101 → red G_81 j = red (tld (M 97) k) j := fun j hj => by rw [red_cong hR hj]; exact red_red hF0 hj
          refine vv_aload_n X 0 rfl rfl dX8_takeTold_114 ?_
          refine vv_callVI (As := []) (st := []) (Nf := 9) X 0 (c_X8_takeMix l D cA had (stc M_9 99 G_81) (fun j hj => by rw [stc_s]; exact hRb j hj)) gX8_takeTold_X8_takeMix rfl (by decide +kernel) ⟨by decide, by decide⟩ (Nat.le_of_ble_eq_true rfl) ⟨by decide, by decide⟩ rfl (by decide) sh_90 rfl rfl dX8_takeTold_115 (fun z115 Md qd => ?_)
          exact vv_iret X hm (by
            obtain ⟨hO, hE⟩ := qd
            have hx : eqx M (stc M_9 99 G_81) [6, 7, 8, 99] := by rw [hM]; exact eqx_stc _ (eqx_stc _ (eqx_rf _ _) (by decide)) (by decide)
            have e9b : stc M_9 99 G_81 99 = G_81 := stc_s _ _ _
            rw [e9b] at hO
            refine ⟨⟨fun q => absurd q hnb, fun _ => ⟨fun q => ?_, fun _ => ?_⟩⟩, eqx_tr hx hE⟩
            · exfalso
              first
              | exact hok q.1
              | (rw [stc_s] at e_z105
                 have q2 : sm (fun j => red (tld (M 97) k) j * ((j : Int) - M 0 2)) 101 ≠ 0 := q.2
                 rw [← hsm] at q2
                 rw [if_neg q2] at e_z105
                 omega)
            · exact opF_red hG2 (opF_l (eqA_sy (vC_same (fun a _ _ => by rw [hM]; rw [stc_n _ _ (by omega)]; exact stc_n _ _ (by omega)))) hO)) dX8_takeTold_118
        · skip
          have hok : okF (red (tld (M 97) k)) := (okF_cong hR).mp (Classical.byContradiction fun q => by unfold okF at q; rw [stc_s, if_neg q] at e_z88; omega)
          have hR9 : ∀ j, j < 101 → 0 ≤ G_81 j ∧ G_81 j ≤ 999 := fun j hj => ⟨(hRb j hj).1, by rw [hR j hj]; exact hok.1 j hj⟩
          have hsm : sm (fun j => G_81 j * ((j : Int) - M 0 2)) 101 = sm (fun j => red (tld (M 97) k) j * ((j : Int) - M 0 2)) 101 := sm_cong (fun j hj => by rw [hR j hj])
          refine vv_aload_n X 0 rfl rfl dX8_takeTold_94 ?_
          refine vv_getr (Nf := 9) (ref := (TX8 5).1) X (by decide) sh_90 rfl 5 (by decide) u_X8_takeTold_8 k_X8_takeTold_41 rfl rfl dX8_takeTold_95 ?_
          refine vv_aload_n X 0 rfl rfl dX8_takeTold_98 ?_
          refine vv_getr (Nf := 9) (ref := (TX8 0).1) X (by decide) sh_90 rfl 0 (by decide) u_X8_takeTold_8 k_X8_takeTold_10 rfl rfl dX8_takeTold_99 ?_
          refine vv_geti (Nf := 3) (ref := (TX7 2).1) (z := (M 0 2)) X (by decide) sh_0 rfl 2 (by decide) u_X8_takeTold_7 k_X8_takeTold_158 rfl rfl (show M_9 0 2 = M 0 2 from by rw [e_9_0]) dX8_takeTold_102 ?_
          refine vv_callVI (As := [.int (zI (M 0 2))]) (st := []) (Nf := 1) X 1 (c_X3_averagesTo l D cA had (stc M_9 99 G_81) (M 0 2) (by omega) (fun j hj => by rw [stc_s]; exact hR9 j hj)) gX8_takeTold_X3_averagesTo rfl (by decide +kernel) ⟨by decide, by decide⟩ (Nat.le_of_ble_eq_true rfl) ⟨by decide, by decide⟩ rfl (by decide) sh_98 rfl rfl dX8_takeTold_105 (fun z105 Mc105 q_105 => ?_)
          obtain ⟨e_z105, g_z105⟩ := q_105
          have g_z105 := g_z105.symm
          subst g_z105
          refine vv_if_ne (tgt := 114) X (by rw [e_z105]; split <;> omega) dX8_takeTold_108 (by decide) (fun c_108 => ?_) (fun c_108 => ?_)
          · skip
            have hG2 : ∀ j, j < 101 → red G_81 j = red (tld (M 97) k) j := fun j hj => by rw [red_cong hR hj]; exact red_red hF0 hj
            refine vv_aload_n X 0 rfl rfl dX8_takeTold_114 ?_
            refine vv_callVI (As := []) (st := []) (Nf := 9) X 0 (c_X8_takeMix l D cA had (stc M_9 99 G_81) (fun j hj => by rw [stc_s]; exact hRb j hj)) gX8_takeTold_X8_takeMix rfl (by decide +kernel) ⟨by decide, by decide⟩ (Nat.le_of_ble_eq_true rfl) ⟨by decide, by decide⟩ rfl (by decide) sh_90 rfl rfl dX8_takeTold_115 (fun z115 Md qd => ?_)
            exact vv_iret X hm (by
              obtain ⟨hO, hE⟩ := qd
              have hx : eqx M (stc M_9 99 G_81) [6, 7, 8, 99] := by rw [hM]; exact eqx_stc _ (eqx_stc _ (eqx_rf _ _) (by decide)) (by decide)
              have e9b : stc M_9 99 G_81 99 = G_81 := stc_s _ _ _
              rw [e9b] at hO
              refine ⟨⟨fun q => absurd q hnb, fun _ => ⟨fun q => ?_, fun _ => ?_⟩⟩, eqx_tr hx hE⟩
              · exfalso
                first
                | exact hok q.1
                | (rw [stc_s] at e_z105
                   have q2 : sm (fun j => red (tld (M 97) k) j * ((j : Int) - M 0 2)) 101 ≠ 0 := q.2
                   rw [← hsm] at q2
                   rw [if_neg q2] at e_z105
                   omega)
              · exact opF_red hG2 (opF_l (eqA_sy (vC_same (fun a _ _ => by rw [hM]; rw [stc_n _ _ (by omega)]; exact stc_n _ _ (by omega)))) hO)) dX8_takeTold_118
          · skip
            refine vv_bipush (n := (-5)) X (by decide) dX8_takeTold_111 ?_
            exact vv_iret X hm (by
              rw [stc_s] at e_z105
              have hx : eqx M (stc M_9 99 G_81) [6, 7, 8, 99] := by rw [hM]; exact eqx_stc _ (eqx_stc _ (eqx_rf _ _) (by decide)) (by decide)
              have hne : sm (fun j => red (tld (M 97) k) j * ((j : Int) - M 0 2)) 101 ≠ 0 := fun q => by rw [← hsm] at q; rw [if_pos q] at e_z105; omega
              exact ⟨⟨fun q => absurd q hnb, fun _ => ⟨fun _ => ⟨rfl, vC_same (fun a _ _ => by rw [hM]; rw [stc_n _ _ (by omega)]; exact stc_n _ _ (by omega))⟩, fun q => absurd ⟨hok, hne⟩ q⟩⟩, hx⟩) dX8_takeTold_113
      · skip
        refine vv_aload_n X 0 rfl rfl dX8_takeTold_20 ?_
        refine vv_getr (Nf := 9) (ref := (TX8 4).1) X (by decide) sh_90 rfl 4 (by decide) u_X8_takeTold_8 k_X8_takeTold_34 rfl rfl dX8_takeTold_21 ?_
        refine vv_iload_n X 1 rfl rfl dX8_takeTold_24 ?_
        refine vv_callVI (As := [.int (zI a1)]) (st := []) (Nf := 6) X 1 (c_X4_number l D cA had M_9 a1 (by rw [e_9_95]; omega) (by rw [e_9_95]; omega)) gX8_takeTold_X4_number rfl (by decide +kernel) ⟨by decide, by decide⟩ (Nat.le_of_ble_eq_true rfl) ⟨by decide, by decide⟩ rfl (by decide) sh_95 rfl rfl dX8_takeTold_25 (fun z25 Mc25 q_25 => ?_)
        obtain ⟨e_z25, g_z25⟩ := q_25
        have g_z25 := g_z25.symm
        subst g_z25
        rw [show z25 = M 97 (2 * k) by rw [e_z25, i1 (by omega), e_9_97]]
        have hbk1 := hb1 (by omega)
        have hbk2 := hb2 (by omega)
        refine vv_istore_n (lv' := [(2, .int (zI (M 97 (2 * k)))), (0, .ref (ad 90)), (1, .int (zI a1))]) X rfl (by decide) rfl dX8_takeTold_28 ?_
        refine vv_aload_n X 1 rfl rfl dX8_takeTold_29 ?_
        refine vv_getr (Nf := 9) (ref := (TX8 4).1) X (by decide) sh_90 rfl 4 (by decide) u_X8_takeTold_8 k_X8_takeTold_34 rfl rfl dX8_takeTold_30 ?_
        refine vv_iload_n X 2 rfl rfl dX8_takeTold_33 ?_
        refine vv_iconst (n := 1) X dX8_takeTold_34 ?_
        refine vv_iadd X dX8_takeTold_35 ?_
        refine vv_callVI (As := [.int (zI (a1 + 1))]) (st := []) (Nf := 6) X 1 (c_X4_number l D cA had M_9 (a1 + 1) (by rw [e_9_95]; omega) (by rw [e_9_95]; omega)) gX8_takeTold_X4_number rfl (by decide +kernel) ⟨by decide, by decide⟩ (Nat.le_of_ble_eq_true rfl) ⟨by decide, by decide⟩ rfl (by decide) sh_95 rfl rfl dX8_takeTold_36 (fun z36 Mc36 q_36 => ?_)
        obtain ⟨e_z36, g_z36⟩ := q_36
        have g_z36 := g_z36.symm
        subst g_z36
        rw [show z36 = M 97 (2 * k + 1) by rw [e_z36, i2 (by omega), e_9_97]]
        refine vv_istore_n (lv' := [(3, .int (zI (M 97 (2 * k + 1)))), (2, .int (zI (M 97 (2 * k)))), (0, .ref (ad 90)), (1, .int (zI a1))]) X rfl (by decide) rfl dX8_takeTold_39 ?_
        refine vv_iload_n X 1 rfl rfl dX8_takeTold_40 ?_
        refine vv_iconst (n := 1) X dX8_takeTold_41 ?_
        refine vv_icmp_lt (tgt := 59) X (by omega) (by omega) dX8_takeTold_42 (by decide) (fun c_42 => ?_) (fun c_42 => ?_)
        · skip
          refine vv_bipush (n := (-2)) X (by decide) dX8_takeTold_59 ?_
          exact vv_iret X hm (⟨⟨fun _ => ⟨rfl, vC_same (fun a _ _ => by rw [hM]; exact stc_n _ _ (by omega))⟩, fun q => absurd ⟨k, by omega, fun w => by omega⟩ q⟩, by rw [hM]; exact eqx_stc _ (eqx_rf _ _) (by decide)⟩) dX8_takeTold_61
        · skip
          refine vv_iload_n X 1 rfl rfl dX8_takeTold_45 ?_
          refine vv_sipush (n := 999) X (by decide) dX8_takeTold_46 ?_
          refine vv_icmp_gt (tgt := 59) X (by omega) (by omega) dX8_takeTold_49 (by decide) (fun c_49 => ?_) (fun c_49 => ?_)
          · skip
            refine vv_bipush (n := (-2)) X (by decide) dX8_takeTold_59 ?_
            exact vv_iret X hm (⟨⟨fun _ => ⟨rfl, vC_same (fun a _ _ => by rw [hM]; exact stc_n _ _ (by omega))⟩, fun q => absurd ⟨k, by omega, fun w => by omega⟩ q⟩, by rw [hM]; exact eqx_stc _ (eqx_rf _ _) (by decide)⟩) dX8_takeTold_61
          · skip
            refine vv_iload_n X 0 rfl rfl dX8_takeTold_52 ?_
            refine vv_callSI (As := [.int (zI (M 97 (2 * k + 1)))]) (st := []) X 1 (c_X8_isPosterior l D cA had M_9 (M 97 (2 * k + 1)) (by omega)) gX8_takeTold_X8_isPosterior rfl (by decide +kernel) ⟨by decide, by decide⟩ (Nat.le_of_ble_eq_true rfl) ⟨by decide, by decide⟩ rfl rfl dX8_takeTold_53 (fun z53 Mc53 q_53 => ?_)
            obtain ⟨e_z53, g_z53⟩ := q_53
            have g_z53 := g_z53.symm
            subst g_z53
            refine vv_if_ne (tgt := 62) X (by rw [e_z53]; split <;> omega) dX8_takeTold_56 (by decide) (fun c_56 => ?_) (fun c_56 => ?_)
            · skip
              have hps : 0 ≤ M 97 (2 * k + 1) ∧ M 97 (2 * k + 1) ≤ 100 := Classical.byContradiction fun q => by rw [if_neg q] at e_z53; omega
              refine vv_aload_n X 2 rfl rfl dX8_takeTold_62 ?_
              refine vv_getr (Nf := 9) (ref := (TX8 5).1) X (by decide) sh_90 rfl 5 (by decide) u_X8_takeTold_8 k_X8_takeTold_41 rfl rfl dX8_takeTold_63 ?_
              refine vv_iload_n X 0 rfl rfl dX8_takeTold_66 ?_
              refine vv_iload_n X 1 rfl rfl dX8_takeTold_67 ?_
              refine vv_callVV (As := [.int (zI (M 97 (2 * k + 1))), .int (zI (M 97 (2 * k)))]) (st := []) (Nf := 1) X 2 (c_X3_add l D cA had M_9 (M 97 (2 * k + 1)) (M 97 (2 * k)) (by omega)) gX8_takeTold_X3_add rfl (by decide +kernel) ⟨by decide, by decide⟩ (Nat.le_of_ble_eq_true rfl) ⟨by decide, by decide⟩ rfl (by decide) sh_98 rfl rfl dX8_takeTold_68 (fun Mc68 q_68 => ?_)
              refine vv_iinc (lv' := [(1, .int (zI (a1 + 2))), (3, .int (zI (M 97 (2 * k + 1)))), (2, .int (zI (M 97 (2 * k)))), (0, .ref (ad 90))]) X 3 rfl (by decide) rfl dX8_takeTold_71 ?_
              refine vv_goto (tgt := 9) X (by decide) dX8_takeTold_74 ?_
              refine vv_sub (lv' := [(0, .ref (ad 90)), (1, .int (zI (a1 + 2)))]) [3, 0] rfl ?_
              exact ih_9 Mc68 (k + 1) (uz G (M 97 (2 * k + 1)).toNat (G (M 97 (2 * k + 1)).toNat + M 97 (2 * k))) (a1 + 2) (by omega) (by omega) (by rw [q_68, e9, hM, up2_stc]) (fun j hj => by
                rw [uzadd, hG j hj]
                have : tld (M 97) (k + 1) j = tld (M 97) k j + (if M 97 (2 * k + 1) = (j : Int) then M 97 (2 * k) else 0) := rfl
                rw [this]
                by_cases q : M 97 (2 * k + 1) = (j : Int)
                · rw [if_pos q, if_pos (by omega)]
                · rw [if_neg q, if_neg (by omega)]) (fun i hi => by
                rcases (show i < k ∨ i = k by omega) with q | q
                · exact hgood i q
                · rw [q]; omega) (by omega)
            · skip
              have hps : ¬ (0 ≤ M 97 (2 * k + 1) ∧ M 97 (2 * k + 1) ≤ 100) := fun q => by rw [if_pos q] at e_z53; omega
              refine vv_bipush (n := (-2)) X (by decide) dX8_takeTold_59 ?_
              exact vv_iret X hm (⟨⟨fun _ => ⟨rfl, vC_same (fun a _ _ => by rw [hM]; exact stc_n _ _ (by omega))⟩, fun q => absurd ⟨k, by omega, fun w => by omega⟩ q⟩, by rw [hM]; exact eqx_stc _ (eqx_rf _ _) (by decide)⟩) dX8_takeTold_61
  refine vv_sub (lv' := [(0, .ref (ad 90)), (1, .int (zI 0))]) [1, 0] rfl ?_
  exact loop_9 _ (stc M 99 (fun j => if (j : Int) < 101 then 0 else M 99 j)) 0 (fun j => if (j : Int) < 101 then 0 else M 99 j) 0 rfl (by omega) rfl (fun j hj => by rw [if_pos (by omega)]; rfl) (fun i hi => absurd hi (by omega)) (Nat.lt_succ_self _)
