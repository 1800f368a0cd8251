theorem u_X8_takeBest_0 : ∀ w ∈ u_ws RX0 TX0 7, w ∈ wsX8_takeBest := by decide +kernel
theorem u_X8_takeBest_7 : ∀ w ∈ u_ws RX7 TX7 3, w ∈ wsX8_takeBest := by decide +kernel
theorem u_X8_takeBest_8 : ∀ w ∈ u_ws RX8 TX8 9, w ∈ wsX8_takeBest := by decide +kernel
theorem k_X8_takeBest_10 : Cond.fieldLink yX8_takeBest.cls 10 (TX8 0).1 (TX8 0).2.1 (TX8 0).2.2.1 ∈ wsX8_takeBest := by decide +kernel
theorem k_X8_takeBest_41 : Cond.fieldLink yX8_takeBest.cls 41 (TX8 5).1 (TX8 5).2.1 (TX8 5).2.2.1 ∈ wsX8_takeBest := by decide +kernel
theorem k_X8_takeBest_48 : Cond.fieldLink yX8_takeBest.cls 48 (TX8 6).1 (TX8 6).2.1 (TX8 6).2.2.1 ∈ wsX8_takeBest := by decide +kernel
theorem k_X8_takeBest_73 : Cond.fieldLink yX8_takeBest.cls 73 (TX7 0).1 (TX7 0).2.1 (TX7 0).2.2.1 ∈ wsX8_takeBest := by decide +kernel
theorem k_X8_takeBest_158 : Cond.fieldLink yX8_takeBest.cls 158 (TX7 2).1 (TX7 2).2.1 (TX7 2).2.2.1 ∈ wsX8_takeBest := by decide +kernel
theorem k_X8_takeBest_187 : Cond.fieldLink yX8_takeBest.cls 187 (TX0 3).1 (TX0 3).2.1 (TX0 3).2.2.1 ∈ wsX8_takeBest := by decide +kernel
theorem k_X8_takeBest_190 : Cond.fieldLink yX8_takeBest.cls 190 (TX0 4).1 (TX0 4).2.1 (TX0 4).2.2.1 ∈ wsX8_takeBest := by decide +kernel
theorem k_X8_takeBest_193 : Cond.fieldLink yX8_takeBest.cls 193 (TX0 5).1 (TX0 5).2.1 (TX0 5).2.2.1 ∈ wsX8_takeBest := by decide +kernel
theorem k_X8_takeBest_196 : Cond.fieldLink yX8_takeBest.cls 196 (TX0 6).1 (TX0 6).2.1 (TX0 6).2.2.1 ∈ wsX8_takeBest := by decide +kernel
set_option maxRecDepth 100000 in
set_option maxHeartbeats 4000000 in
theorem c_X8_takeBest (l : Launch) (D : va_G) {ad : Nat → Nat} (cA : Nat → ClassId) (had : adok ad) (M : Mem) (hp : 1 ≤ M 0 2 ∧ M 0 2 ≤ 99) (hW : cWR M) : CtI l yX8_takeBest wsX8_takeBest 4 88 D ad cA [.ref (ad 90)] M (fun z M1 => opB (vC M 0) z (vC M1 0) ∧ eqx M M1 [6, 7, 8, 99, 100, 101, 102]) := by
  refine CtI.of (cc := cX8_takeBest) (maxL := 1) (ret := (some .int)) had (by decide) rfl (Nat.le_of_ble_eq_true rfl) ?_
  intro p e s m args below meth c X hm
  show VV p l e { frames := 4, cells := 0, slots := 0, locals := 88 } s m args below meth c 1 D ad cA (Afr ad s.heap.size) 0 0 (QI below args s D ad cA (fun z M1 => opB (vC M 0) z (vC M1 0) ∧ eqx M M1 [6, 7, 8, 99, 100, 101, 102])) M 0 [(0, .ref (ad 90))] []
  refine vv_aload_n X 0 rfl rfl dX8_takeBest_0 ?_
  refine vv_getr (Nf := 9) (ref := (TX8 6).1) X (by decide) sh_90 rfl 6 (by decide) u_X8_takeBest_8 k_X8_takeBest_48 rfl rfl dX8_takeBest_1 ?_
  refine vv_aload_n X 0 rfl rfl dX8_takeBest_4 ?_
  refine vv_getr (Nf := 9) (ref := (TX8 0).1) X (by decide) sh_90 rfl 0 (by decide) u_X8_takeBest_8 k_X8_takeBest_10 rfl rfl dX8_takeBest_5 ?_
  refine vv_getr (Nf := 3) (ref := (TX7 0).1) X (by decide) sh_0 rfl 0 (by decide) u_X8_takeBest_7 k_X8_takeBest_73 rfl rfl dX8_takeBest_8 ?_
  refine vv_callVV (As := [.ref (ad 1)]) (st := []) (Nf := 7) X 1 (c_X0_draw l D cA had M (by assumption)) gX8_takeBest_X0_draw rfl (by decide +kernel) ⟨by decide, by decide⟩ (Nat.le_of_ble_eq_true rfl) ⟨by decide, by decide⟩ rfl (by decide) sh_100 rfl rfl dX8_takeBest_11 (fun Mc11 q_11 => ?_)
  obtain ⟨E11, V11, H11, N11⟩ := q_11
  have e_Mc11_0 : Mc11 0 = M 0 := (E11 0 (by decide)).trans (show M 0 = M 0 from rfl)
  have e_Mc11_1 : Mc11 1 = M 1 := (E11 1 (by decide)).trans (show M 1 = M 1 from rfl)
  have e_Mc11_2 : Mc11 2 = M 2 := (E11 2 (by decide)).trans (show M 2 = M 2 from rfl)
  have e_Mc11_3 : Mc11 3 = M 3 := (E11 3 (by decide)).trans (show M 3 = M 3 from rfl)
  have e_Mc11_4 : Mc11 4 = M 4 := (E11 4 (by decide)).trans (show M 4 = M 4 from rfl)
  have e_Mc11_5 : Mc11 5 = M 5 := (E11 5 (by decide)).trans (show M 5 = M 5 from rfl)
  have e_Mc11_6 : Mc11 6 = M 6 := (E11 6 (by decide)).trans (show M 6 = M 6 from rfl)
  have e_Mc11_7 : Mc11 7 = M 7 := (E11 7 (by decide)).trans (show M 7 = M 7 from rfl)
  have e_Mc11_8 : Mc11 8 = M 8 := (E11 8 (by decide)).trans (show M 8 = M 8 from rfl)
  have e_Mc11_99 : Mc11 99 = M 99 := (E11 99 (by decide)).trans (show M 99 = M 99 from rfl)
  have e_Mc11_103 : Mc11 103 = M 103 := (E11 103 (by decide)).trans (show M 103 = M 103 from rfl)
  have e_Mc11_104 : Mc11 104 = M 104 := (E11 104 (by decide)).trans (show M 104 = M 104 from rfl)
  have hvb : ∀ y : Int, (0 ≤ y ∧ y ≤ 100) → -990 ≤ vM Mc11 y ∧ vM Mc11 y ≤ 990 := fun y hy => by
    have := V11 y.toNat (by omega)
    have h2 := vl_b (x := ((y.toNat : Nat) : Int)) hW.2
    show -990 ≤ Mc11 101 y.toNat ∧ Mc11 101 y.toNat ≤ 990
    rw [this]
    unfold cvl
    omega
  refine vv_aload_n X 0 rfl rfl dX8_takeBest_14 ?_
  refine vv_getr (Nf := 9) (ref := (TX8 6).1) X (by decide) sh_90 rfl 6 (by decide) u_X8_takeBest_8 k_X8_takeBest_48 rfl rfl dX8_takeBest_15 ?_
  refine vv_aload_n X 0 rfl rfl dX8_takeBest_18 ?_
  refine vv_getr (Nf := 9) (ref := (TX8 0).1) X (by decide) sh_90 rfl 0 (by decide) u_X8_takeBest_8 k_X8_takeBest_10 rfl rfl dX8_takeBest_19 ?_
  refine vv_geti (Nf := 3) (ref := (TX7 2).1) (z := (M 0 2)) X (by decide) sh_0 rfl 2 (by decide) u_X8_takeBest_7 k_X8_takeBest_158 rfl rfl (show Mc11 0 2 = M 0 2 from by rw [e_Mc11_0]) dX8_takeBest_22 ?_
  refine vv_callVV (As := [.int (zI (M 0 2))]) (st := []) (Nf := 7) X 1 (c_X0_aim l D cA had Mc11 (M 0 2) (by omega) (by omega) (H11) (hvb)) gX8_takeBest_X0_aim rfl (by decide +kernel) ⟨by decide, by decide⟩ (Nat.le_of_ble_eq_true rfl) ⟨by decide, by decide⟩ rfl (by decide) sh_100 rfl rfl dX8_takeBest_25 (fun Mc25 q_25 => ?_)
  obtain ⟨E25, C25, B25, L25, U25⟩ := q_25
  have e_Mc25_0 : Mc25 0 = M 0 := (E25 0 (by decide)).trans (show Mc11 0 = M 0 from e_Mc11_0)
  have e_Mc25_1 : Mc25 1 = M 1 := (E25 1 (by decide)).trans (show Mc11 1 = M 1 from e_Mc11_1)
  have e_Mc25_2 : Mc25 2 = M 2 := (E25 2 (by decide)).trans (show Mc11 2 = M 2 from e_Mc11_2)
  have e_Mc25_3 : Mc25 3 = M 3 := (E25 3 (by decide)).trans (show Mc11 3 = M 3 from e_Mc11_3)
  have e_Mc25_4 : Mc25 4 = M 4 := (E25 4 (by decide)).trans (show Mc11 4 = M 4 from e_Mc11_4)
  have e_Mc25_5 : Mc25 5 = M 5 := (E25 5 (by decide)).trans (show Mc11 5 = M 5 from e_Mc11_5)
  have e_Mc25_6 : Mc25 6 = M 6 := (E25 6 (by decide)).trans (show Mc11 6 = M 6 from e_Mc11_6)
  have e_Mc25_7 : Mc25 7 = M 7 := (E25 7 (by decide)).trans (show Mc11 7 = M 7 from e_Mc11_7)
  have e_Mc25_8 : Mc25 8 = M 8 := (E25 8 (by decide)).trans (show Mc11 8 = M 8 from e_Mc11_8)
  have e_Mc25_99 : Mc25 99 = M 99 := (E25 99 (by decide)).trans (show Mc11 99 = M 99 from e_Mc11_99)
  have e_Mc25_101 : Mc25 101 = Mc11 101 := (E25 101 (by decide)).trans (show Mc11 101 = Mc11 101 from rfl)
  have e_Mc25_102 : Mc25 102 = Mc11 102 := (E25 102 (by decide)).trans (show Mc11 102 = Mc11 102 from rfl)
  have e_Mc25_103 : Mc25 103 = M 103 := (E25 103 (by decide)).trans (show Mc11 103 = M 103 from e_Mc11_103)
  have e_Mc25_104 : Mc25 104 = M 104 := (E25 104 (by decide)).trans (show Mc11 104 = M 104 from e_Mc11_104)
  have hcu : CU M Mc25 (M 0 2) := CU_of (by omega) E11 V11 E25 B25 L25 U25
  have hok := hcu.2.2.1.1
  have hrl := okS_rng hok (show 0 ≤ M 0 2 ∧ M 0 2 ≤ 100 by omega)
  refine vv_aload_n X 0 rfl rfl dX8_takeBest_28 ?_
  refine vv_getr (Nf := 9) (ref := (TX8 5).1) X (by decide) sh_90 rfl 5 (by decide) u_X8_takeBest_8 k_X8_takeBest_41 rfl rfl dX8_takeBest_29 ?_
  refine vv_callVV (As := []) (st := []) (Nf := 1) X 0 (c_X3_clear l D cA had Mc25) gX8_takeBest_X3_clear rfl (by decide +kernel) ⟨by decide, by decide⟩ (Nat.le_of_ble_eq_true rfl) ⟨by decide, by decide⟩ rfl (by decide) sh_98 rfl rfl dX8_takeBest_32 (fun Mc32 q_32 => ?_)
  have q_32 := q_32.symm
  subst q_32
  refine vv_aload_n X 0 rfl rfl dX8_takeBest_35 ?_
  refine vv_getr (Nf := 9) (ref := (TX8 5).1) X (by decide) sh_90 rfl 5 (by decide) u_X8_takeBest_8 k_X8_takeBest_41 rfl rfl dX8_takeBest_36 ?_
  refine vv_aload_n X 0 rfl rfl dX8_takeBest_39 ?_
  refine vv_getr (Nf := 9) (ref := (TX8 6).1) X (by decide) sh_90 rfl 6 (by decide) u_X8_takeBest_8 k_X8_takeBest_48 rfl rfl dX8_takeBest_40 ?_
  refine vv_geti (Nf := 7) (ref := (TX0 3).1) (z := (Mc25 100 3)) X (by decide) sh_100 rfl 3 (by decide) u_X8_takeBest_0 k_X8_takeBest_187 rfl rfl (rfl) dX8_takeBest_43 ?_
  refine vv_aload_n X 0 rfl rfl dX8_takeBest_46 ?_
  refine vv_getr (Nf := 9) (ref := (TX8 6).1) X (by decide) sh_90 rfl 6 (by decide) u_X8_takeBest_8 k_X8_takeBest_48 rfl rfl dX8_takeBest_47 ?_
  refine vv_geti (Nf := 7) (ref := (TX0 5).1) (z := (Mc25 100 5)) X (by decide) sh_100 rfl 5 (by decide) u_X8_takeBest_0 k_X8_takeBest_193 rfl rfl (rfl) dX8_takeBest_50 ?_
  refine vv_callVV (As := [.int (zI (Mc25 100 3)), .int (zI (Mc25 100 5))]) (st := []) (Nf := 1) X 2 (c_X3_add l D cA had (stc Mc25 99 (fun j => if (j : Int) < 101 then 0 else Mc25 99 j)) (Mc25 100 3) (Mc25 100 5) (by omega)) gX8_takeBest_X3_add rfl (by decide +kernel) ⟨by decide, by decide⟩ (Nat.le_of_ble_eq_true rfl) ⟨by decide, by decide⟩ rfl (by decide) sh_98 rfl rfl dX8_takeBest_53 (fun Mb qb => ?_)
  refine vv_aload_n X 0 rfl rfl dX8_takeBest_56 ?_
  refine vv_getr (Nf := 9) (ref := (TX8 5).1) X (by decide) sh_90 rfl 5 (by decide) u_X8_takeBest_8 k_X8_takeBest_41 rfl rfl dX8_takeBest_57 ?_
  refine vv_aload_n X 0 rfl rfl dX8_takeBest_60 ?_
  refine vv_getr (Nf := 9) (ref := (TX8 6).1) X (by decide) sh_90 rfl 6 (by decide) u_X8_takeBest_8 k_X8_takeBest_48 rfl rfl dX8_takeBest_61 ?_
  refine vv_geti (Nf := 7) (ref := (TX0 4).1) (z := (Mc25 100 4)) X (by decide) sh_100 rfl 4 (by decide) u_X8_takeBest_0 k_X8_takeBest_190 rfl rfl (by rw [qb]; rfl) dX8_takeBest_64 ?_
  refine vv_aload_n X 0 rfl rfl dX8_takeBest_67 ?_
  refine vv_getr (Nf := 9) (ref := (TX8 6).1) X (by decide) sh_90 rfl 6 (by decide) u_X8_takeBest_8 k_X8_takeBest_48 rfl rfl dX8_takeBest_68 ?_
  refine vv_geti (Nf := 7) (ref := (TX0 6).1) (z := (Mc25 100 6)) X (by decide) sh_100 rfl 6 (by decide) u_X8_takeBest_0 k_X8_takeBest_196 rfl rfl (by rw [qb]; rfl) dX8_takeBest_71 ?_
  refine vv_callVV (As := [.int (zI (Mc25 100 4)), .int (zI (Mc25 100 6))]) (st := []) (Nf := 1) X 2 (c_X3_add l D cA had Mb (Mc25 100 4) (Mc25 100 6) (by omega)) gX8_takeBest_X3_add rfl (by decide +kernel) ⟨by decide, by decide⟩ (Nat.le_of_ble_eq_true rfl) ⟨by decide, by decide⟩ rfl (by decide) sh_98 rfl rfl dX8_takeBest_74 (fun Mc qc => ?_)
  obtain ⟨H, hH⟩ : ∃ H : Nat → Int, H = uz (uz (fun j => if (j : Int) < 101 then 0 else Mc25 99 j) (Mc25 100 3).toNat (0 + Mc25 100 5)) (Mc25 100 4).toNat (uz (fun j => if (j : Int) < 101 then 0 else Mc25 99 j) (Mc25 100 3).toNat (0 + Mc25 100 5) (Mc25 100 4).toNat + Mc25 100 6) := ⟨_, rfl⟩
  have hMc : Mc = stc Mc25 99 H := by
    rw [qc, qb, hH]
    simp only [up2_stc, stc_s]
    rw [if_pos (show (((Mc25 100 3).toNat : Nat) : Int) < 101 by omega)]
  have hFr : ∀ j, j < 101 → H j = bstF (M 0 2) (Mc25 100 3) (Mc25 100 4) j := fun j hj => by
    have := bst_uz (Z := fun j => if (j : Int) < 101 then 0 else Mc25 99 j) (x := M 0 2) (lo := Mc25 100 3) (hi := Mc25 100 4) (fun j hj => if_pos (by omega)) hrl.1.1 hrl.2.1 hj
    rw [← this, hH, ← hcu.2.2.2.1, ← hcu.2.2.2.2]
    rw [if_pos (show (((Mc25 100 3).toNat : Nat) : Int) < 101 by omega)]
  have hfb : ∀ j : Nat, j < 101 → 0 ≤ Mc 99 j ∧ Mc 99 j ≤ 1073741824 := fun j hj => by
    rw [hMc, stc_s, hFr j hj]
    have := bstF_b hok (show 0 ≤ M 0 2 ∧ M 0 2 ≤ 100 by omega) j
    omega
  refine vv_aload_n X 0 rfl rfl dX8_takeBest_77 ?_
  refine vv_callVI (As := []) (st := []) (Nf := 9) X 0 (c_X8_takeMix l D cA had Mc (hfb)) gX8_takeBest_X8_takeMix rfl (by decide +kernel) ⟨by decide, by decide⟩ (Nat.le_of_ble_eq_true rfl) ⟨by decide, by decide⟩ rfl (by decide) sh_90 rfl rfl dX8_takeBest_78 (fun z78 Md qd => ?_)
  exact vv_iret X hm (by
    obtain ⟨hO, hE⟩ := qd
    have hx2 : eqx M Mc [99, 100, 101, 102] := by rw [hMc]; exact eqx_stc _ (eqx_mono hcu.1 (by decide)) (by decide)
    have e9 : Mc 99 = H := by rw [hMc, stc_s]
    rw [e9] at hO
    refine ⟨⟨Mc25 100 3, Mc25 100 4, hcu.2.2.1, opF_cong hFr (opF_l (eqA_sy (vC_same (fun a _ _ => hx2 a (by simp; omega)))) hO)⟩, eqx_tr (eqx_mono hx2 (by decide)) (eqx_mono hE (by decide))⟩) dX8_takeBest_81
