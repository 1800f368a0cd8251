set_option maxRecDepth 100000 in
set_option maxHeartbeats 4000000 in
theorem law_adopt {p : Program} {l : Launch} {e : Env} {s : State} {m : MethodId} {below : List Frame} {meth : Method} {c : Code} {D : va_G} {ad : Nat → Nat} {cA : Nat → ClassId} {b : Nat} (X : Cx p s m #[Value.ref b] c cL_law RL 19 wsL_law D ad cA (AL s)) {i x : Int} (M : Mem) (hR : RLL M) (nx : ∀ M2 : Mem, RLL M2 → VV p l e room_1 s m #[Value.ref b] below meth c 19 D ad cA (AL s) 113 940 (lw_Z below #[Value.ref b] s) M2 1029 [(0, .ref b), (1, .ref (ad 90)), (2, .ref (ad 105)), (3, .ref (ad 106)), (4, .ref (ad 107)), (5, .ref (ad 108)), (6, .ref (ad 109)), (7, .ref (ad 110)), (8, .ref (ad 111)), (9, .ref (ad 112)), (10, .int (zI i)), (11, .int (zI x))] []) : VV p l e room_1 s m #[Value.ref b] below meth c 19 D ad cA (AL s) 113 940 (lw_Z below #[Value.ref b] s) M 864 [(0, .ref b), (1, .ref (ad 90)), (2, .ref (ad 105)), (3, .ref (ad 106)), (4, .ref (ad 107)), (5, .ref (ad 108)), (6, .ref (ad 109)), (7, .ref (ad 110)), (8, .ref (ad 111)), (9, .ref (ad 112)), (10, .int (zI i)), (11, .int (zI x))] [] := by
  have had := X.2.2.2.1
  have hwl := RLL_wl hR
  have hW : rWR M := hwl.2.1
  have h5 := hW.2.1
  have h50 := hW.1
  have hsm : 1 ≤ M 105 2 ∧ M 105 2 ≤ 6 := WFs_pos hwl.2.2
  have hwb : ∀ k : Nat, (k : Int) < M 105 2 → (1 ≤ M 107 k ∧ M 107 k ≤ 999) ∧ (0 ≤ M 108 k ∧ M 108 k ≤ 100) := fun k hk => WFs_b hwl.2.2 hk
  have hp9 : 1 ≤ M 105 0 ∧ M 105 0 ≤ 99 := hwl.1
  refine vv_aload_n X 2 rfl rfl dL_law_864 ?_
  refine vv_iconst (n := 0) X dL_law_865 ?_
  refine vv_iald (z := (M 105 0)) X (by decide) sh_105 (by decide) (by omega) (rfl) dL_law_866 ?_
  refine vv_aload_n X 2 rfl rfl dL_law_867 ?_
  refine vv_aload_n X 3 rfl rfl dL_law_868 ?_
  refine vv_aload X 6 rfl dL_law_869 ?_
  refine vv_callSI (As := [.int (zI (M 105 0)), .ref (ad 105), .ref (ad 106), .ref (ad 109)]) (st := []) X 4 (c_L_envelope l D cA had M (M 105 0) (by omega) (hW)) gL_law_L_envelope rfl (by decide +kernel) ⟨by decide, by decide⟩ (Nat.le_of_ble_eq_true rfl) ⟨Nat.le_of_ble_eq_true rfl, Nat.le_of_ble_eq_true rfl⟩ rfl rfl dL_law_871 (fun z871 Mc871 q_871 => ?_)
  obtain ⟨lo871, hi871, hB871, e_z871, q_871⟩ := q_871
  have q_871 := q_871.symm
  subst q_871
  obtain ⟨N874, h_N874⟩ : ∃ N : Mem, N = (up2 (up2 M 109 0 (frA (sN (rvl M) (M 105 0) lo871 hi871) (sD lo871 hi871))) 109 1 (frB (sN (rvl M) (M 105 0) lo871 hi871) (sD lo871 hi871))) := ⟨_, rfl⟩
  rw [← h_N874]
  have EN874 : eqx M N874 [109] := by rw [h_N874]; exact eqx_up _ _ (eqx_up _ _ (eqx_rf _ _) (by decide)) (by decide)
  have cl_874 : ∀ a, a < 105 → N874 a = M a := fun a ha => EN874 a (by simp; omega)
  obtain ⟨hl871, hh871⟩ := okS_rng hB871.1 (show 0 ≤ M 105 0 ∧ M 105 0 ≤ 100 by omega)
  refine vv_istore (lv' := [(13, .int (zI z871)), (0, .ref b), (1, .ref (ad 90)), (2, .ref (ad 105)), (3, .ref (ad 106)), (4, .ref (ad 107)), (5, .ref (ad 108)), (6, .ref (ad 109)), (7, .ref (ad 110)), (8, .ref (ad 111)), (9, .ref (ad 112)), (10, .int (zI i)), (11, .int (zI x))]) X (by decide) rfl dL_law_874 ?_
  refine vv_iload X 0 rfl dL_law_876 ?_
  refine vv_sipush (n := 1000) X (by decide) dL_law_878 ?_
  refine vv_irem X (by omega) (by omega) (by omega) dL_law_881 ?_
  rw [show (Int.tmod z871 1000) = lo871 from by rw [e_z871, Int.tmod_eq_emod_of_nonneg (by omega)]; omega]
  refine vv_istore (lv' := [(14, .int (zI lo871)), (13, .int (zI z871)), (0, .ref b), (1, .ref (ad 90)), (2, .ref (ad 105)), (3, .ref (ad 106)), (4, .ref (ad 107)), (5, .ref (ad 108)), (6, .ref (ad 109)), (7, .ref (ad 110)), (8, .ref (ad 111)), (9, .ref (ad 112)), (10, .int (zI i)), (11, .int (zI x))]) X (by decide) rfl dL_law_882 ?_
  refine vv_iload X 1 rfl dL_law_884 ?_
  refine vv_sipush (n := 1000) X (by decide) dL_law_886 ?_
  refine vv_idiv X (by omega) (by omega) (by omega) dL_law_889 ?_
  rw [show (Int.tdiv z871 1000) = hi871 from by rw [e_z871, Int.tdiv_eq_ediv_of_nonneg (by omega)]; omega]
  refine vv_istore (lv' := [(15, .int (zI hi871)), (14, .int (zI lo871)), (13, .int (zI z871)), (0, .ref b), (1, .ref (ad 90)), (2, .ref (ad 105)), (3, .ref (ad 106)), (4, .ref (ad 107)), (5, .ref (ad 108)), (6, .ref (ad 109)), (7, .ref (ad 110)), (8, .ref (ad 111)), (9, .ref (ad 112)), (10, .int (zI i)), (11, .int (zI x))]) X (by decide) rfl dL_law_890 ?_
  refine vv_aload X 10 rfl dL_law_892 ?_
  refine vv_iconst (n := 0) X dL_law_894 ?_
  refine vv_iload X 1 rfl dL_law_895 ?_
  refine vv_iload X 0 rfl dL_law_897 ?_
  refine vv_icmp_ne (tgt := 906) X (by omega) (by omega) dL_law_899 (by decide) (fun c_899 => ?_) (fun c_899 => ?_)
  · skip
    refine vv_iload X 0 rfl dL_law_906 ?_
    refine vv_aload_n X 5 rfl rfl dL_law_908 ?_
    refine vv_iconst (n := 0) X dL_law_909 ?_
    refine vv_iald (z := (M 105 0)) X (by decide) sh_105 (by decide) (by omega) (show N874 105 0 = M 105 0 from by rw [(EN874 105 (by decide))]) dL_law_910 ?_
    refine vv_isub X dL_law_911 ?_
    refine vv_iast (ix := 0) X (by decide) sh_110 (by decide) (by omega) (rfl) dL_law_912 ?_
    refine vv_aload X 11 rfl dL_law_913 ?_
    refine vv_iconst (n := 0) X dL_law_915 ?_
    refine vv_iload X 1 rfl dL_law_916 ?_
    refine vv_iast (ix := 0) X (by decide) sh_111 (by decide) (by omega) (rfl) dL_law_918 ?_
    refine vv_aload X 10 rfl dL_law_919 ?_
    refine vv_iconst (n := 1) X dL_law_921 ?_
    refine vv_iload X 1 rfl dL_law_922 ?_
    refine vv_iload X 0 rfl dL_law_924 ?_
    refine vv_icmp_ne (tgt := 933) X (by omega) (by omega) dL_law_926 (by decide) (fun c_926 => ?_) (fun c_926 => ?_)
    · skip
      refine vv_aload_n X 5 rfl rfl dL_law_933 ?_
      refine vv_iconst (n := 0) X dL_law_934 ?_
      refine vv_iald (z := (M 105 0)) X (by decide) sh_105 (by decide) (by omega) (show N874 105 0 = M 105 0 from by rw [(EN874 105 (by decide))]) dL_law_935 ?_
      refine vv_iload X 1 rfl dL_law_936 ?_
      refine vv_isub X dL_law_938 ?_
      refine vv_iast (ix := 1) X (by decide) sh_110 (by decide) (by omega) (rfl) dL_law_939 ?_
      refine vv_aload X 11 rfl dL_law_940 ?_
      refine vv_iconst (n := 1) X dL_law_942 ?_
      refine vv_iload X 0 rfl dL_law_943 ?_
      refine vv_iast (ix := 1) X (by decide) sh_111 (by decide) (by omega) (rfl) dL_law_945 ?_
      obtain ⟨N946, h_N946⟩ : ∃ N : Mem, N = (up2 (up2 (up2 (up2 N874 110 0 (hi871 - (M 105 0))) 111 0 lo871) 110 1 ((M 105 0) - lo871)) 111 1 hi871) := ⟨_, rfl⟩
      rw [← h_N946]
      have EN946 : eqx M N946 [109, 110, 111] := by rw [h_N946]; exact eqx_up _ _ (eqx_up _ _ (eqx_up _ _ (eqx_up _ _ (eqx_mono EN874 (by decide)) (by decide)) (by decide)) (by decide)) (by decide)
      have cl_946 : ∀ a, a < 105 → N946 a = M a := fun a ha => EN946 a (by simp; omega)
      have a0 : N946 110 0 = if lo871 = hi871 then 1 else hi871 - M 105 0 := by rw [h_N946, if_neg (by omega)]; rfl
      have a1 : N946 110 1 = if lo871 = hi871 then 0 else M 105 0 - lo871 := by rw [h_N946, if_neg (by omega)]; rfl
      have b0 : N946 111 0 = lo871 := by rw [h_N946]; rfl
      have b1 : N946 111 1 = hi871 := by rw [h_N946]; rfl
      have hlx : (lo871 = M 105 0 ∧ hi871 = M 105 0) ∨ (lo871 < M 105 0 ∧ M 105 0 < hi871) := by rcases hB871.1 with q | q <;> omega
      have hw0 : 1 ≤ N946 110 0 ∧ N946 110 0 ≤ 100 := by rw [a0]; split <;> omega
      have hw1 : 0 ≤ N946 110 1 ∧ N946 110 1 ≤ 100 := by rw [a1]; split <;> omega
      have hSF : ∀ j : Nat, 0 ≤ SF (N946 110) (N946 111) 2 j ∧ SF (N946 110) (N946 111) 2 j ≤ 999 := fun j => by
        show 0 ≤ 0 + (if N946 111 0 = (j : Int) then N946 110 0 else 0) + (if N946 111 1 = (j : Int) then N946 110 1 else 0) ∧ 0 + (if N946 111 0 = (j : Int) then N946 110 0 else 0) + (if N946 111 1 = (j : Int) then N946 110 1 else 0) ≤ 999
        split <;> split <;> omega
      have hok : okF (red (SF (N946 110) (N946 111) 2)) := okF_small (fun j => (hSF j).1) (fun j => (hSF j).2) (by have := cnt_SF (w := N946 110) (p := N946 111) 2 101; omega)
      have hred : ∀ j, j < 101 → red (SF (N946 110) (N946 111) 2) j = red (bstF (M 105 0) lo871 hi871) j := bst_two hB871.1 a0 b0 a1 b1
      refine vv_iconst (n := 2) X dL_law_946 ?_
      refine vv_aload X 10 rfl dL_law_947 ?_
      refine vv_aload X 11 rfl dL_law_949 ?_
      refine vv_aload X 12 rfl dL_law_951 ?_
      refine vv_callSI (As := [.int (zI 2), .ref (ad 110), .ref (ad 111), .ref (ad 112)]) (st := []) X 4 (c_L_tidy l D cA had N946 2 (by omega) (fun q hq => by
          rcases (show q = 0 ∨ q = 1 by omega) with w | w <;> subst w
          · rw [b0]; omega
          · rw [b1]; omega)) gL_law_L_tidy rfl (by decide +kernel) ⟨by decide, by decide⟩ (Nat.le_of_ble_eq_true rfl) ⟨Nat.le_of_ble_eq_true rfl, Nat.le_of_ble_eq_true rfl⟩ rfl rfl dL_law_953 (fun z953 Mc953 q_953 => ?_)
      obtain ⟨T953, G953, S953, B953⟩ := q_953
      have cl_Mc953 : ∀ a, a < 105 → Mc953 a = M a := fun a ha => (G953 a (by simp; omega)).trans (cl_946 a ha)
      refine vv_pop X rfl dL_law_956 ?_
      refine vv_aload X 12 rfl dL_law_957 ?_
      refine vv_aload_n X 5 rfl rfl dL_law_959 ?_
      refine vv_aload X 7 rfl dL_law_960 ?_
      refine vv_aload X 8 rfl dL_law_962 ?_
      refine vv_callSV (As := [.ref (ad 112), .ref (ad 105), .ref (ad 107), .ref (ad 108)]) (st := []) X 4 (c_L_take l D cA had Mc953 (by omega)) gL_law_L_take rfl (by decide +kernel) ⟨by decide, by decide⟩ (Nat.le_of_ble_eq_true rfl) ⟨Nat.le_of_ble_eq_true rfl, Nat.le_of_ble_eq_true rfl⟩ rfl rfl dL_law_964 (fun Mc964 q_964 => ?_)
      obtain ⟨A964, U964, J964⟩ := q_964
      have cl_Mc964 : ∀ a, a < 105 → Mc964 a = M a := fun a ha => (A964 a (by simp; omega)).trans (cl_Mc953 a ha)
      refine vv_aload_n X 4 rfl rfl dL_law_967 ?_
      refine vv_callVI (As := []) (st := []) (Nf := 9) X 0 (c_X8_adopt l D cA had Mc964   (HI_c hR.2.2 cl_Mc964) (WF_c hR.2.1 cl_Mc964)) gL_law_X8_adopt rfl (by decide +kernel) ⟨by decide, by decide⟩ (Nat.le_of_ble_eq_true rfl) ⟨Nat.le_of_ble_eq_true rfl, Nat.le_of_ble_eq_true rfl⟩ rfl (by decide) sh_90 rfl rfl dL_law_968 (fun z968 Mc968 q_968 => ?_)
      obtain ⟨⟨o968, _, _, hi968, kp968, _⟩, _⟩ := q_968
      rw [vC_c cl_Mc964] at o968
      obtain ⟨ez, eA, eW⟩ := det_B hR.1 hR.2.1 o968 (show opB (vL M) (Mc953 112 16) ((vL M).1, (vL M).2.1, (vL M).2.2.1, Mc953 112 16, (fun i => Mc953 112 (2 * i)), (fun i => Mc953 112 (2 * i + 1))) from ⟨lo871, hi871, hB871, law_F1 hred hok S953⟩)
      refine vv_aload_n X 5 rfl rfl dL_law_971 ?_
      refine vv_iconst (n := 2) X dL_law_972 ?_
      refine vv_iald (z := (Mc953 112 16)) X (by decide) sh_105 (by decide) (by omega) (by rw [kp968 105 (by omega), U964]; exact uz_s _ _ _) dL_law_973 ?_
      refine vv_icmp_eq (tgt := 979) X (by omega) (by omega) dL_law_974 (by decide) (fun c_974 => ?_) (fun c_974 => ?_)
      · skip
        refine vv_goto (tgt := 1029) X (by decide) dL_law_979 ?_
        refine vv_sub (lv' := [(0, .ref b), (1, .ref (ad 90)), (2, .ref (ad 105)), (3, .ref (ad 106)), (4, .ref (ad 107)), (5, .ref (ad 108)), (6, .ref (ad 109)), (7, .ref (ad 110)), (8, .ref (ad 111)), (9, .ref (ad 112)), (10, .int (zI i)), (11, .int (zI x))]) [3, 4, 5, 6, 7, 8, 9, 10, 11, 12, 13, 14] rfl ?_
        exact nx _ (RLL_of hi968 eW eA (fun _ _ => rfl) (prt_L (M := M) (m := Mc953 112 16) (by rw [kp968 105 (by omega), U964, G953 105 (by decide), EN946 105 (by decide)]) ((kp968 106 (by omega)).trans ((A964 106 (by decide)).trans ((G953 106 (by decide)).trans (EN946 106 (by decide))))) (fun k9 hk9 => by
          obtain ⟨q1, q2⟩ := J964 k9 hk9
          rw [kp968 107 (by omega), kp968 108 (by omega)]
          exact ⟨q1.symm, q2.symm⟩)))
      · skip
        omega
    · skip
      omega
  · skip
    refine vv_iconst (n := 1) X dL_law_902 ?_
    refine vv_goto (tgt := 912) X (by decide) dL_law_903 ?_
    refine vv_iast (ix := 0) X (by decide) sh_110 (by decide) (by omega) (rfl) dL_law_912 ?_
    refine vv_aload X 11 rfl dL_law_913 ?_
    refine vv_iconst (n := 0) X dL_law_915 ?_
    refine vv_iload X 1 rfl dL_law_916 ?_
    refine vv_iast (ix := 0) X (by decide) sh_111 (by decide) (by omega) (rfl) dL_law_918 ?_
    refine vv_aload X 10 rfl dL_law_919 ?_
    refine vv_iconst (n := 1) X dL_law_921 ?_
    refine vv_iload X 1 rfl dL_law_922 ?_
    refine vv_iload X 0 rfl dL_law_924 ?_
    refine vv_icmp_ne (tgt := 933) X (by omega) (by omega) dL_law_926 (by decide) (fun c_926 => ?_) (fun c_926 => ?_)
    · skip
      omega
    · skip
      refine vv_iconst (n := 0) X dL_law_929 ?_
      refine vv_goto (tgt := 939) X (by decide) dL_law_930 ?_
      refine vv_iast (ix := 1) X (by decide) sh_110 (by decide) (by omega) (rfl) dL_law_939 ?_
      refine vv_aload X 11 rfl dL_law_940 ?_
      refine vv_iconst (n := 1) X dL_law_942 ?_
      refine vv_iload X 0 rfl dL_law_943 ?_
      refine vv_iast (ix := 1) X (by decide) sh_111 (by decide) (by omega) (rfl) dL_law_945 ?_
      obtain ⟨N946, h_N946⟩ : ∃ N : Mem, N = (up2 (up2 (up2 (up2 N874 110 0 1) 111 0 lo871) 110 1 0) 111 1 hi871) := ⟨_, rfl⟩
      rw [← h_N946]
      have EN946 : eqx M N946 [109, 110, 111] := by rw [h_N946]; exact eqx_up _ _ (eqx_up _ _ (eqx_up _ _ (eqx_up _ _ (eqx_mono EN874 (by decide)) (by decide)) (by decide)) (by decide)) (by decide)
      have cl_946 : ∀ a, a < 105 → N946 a = M a := fun a ha => EN946 a (by simp; omega)
      have a0 : N946 110 0 = if lo871 = hi871 then 1 else hi871 - M 105 0 := by rw [h_N946, if_pos (by omega)]; rfl
      have a1 : N946 110 1 = if lo871 = hi871 then 0 else M 105 0 - lo871 := by rw [h_N946, if_pos (by omega)]; rfl
      have b0 : N946 111 0 = lo871 := by rw [h_N946]; rfl
      have b1 : N946 111 1 = hi871 := by rw [h_N946]; rfl
      have hlx : (lo871 = M 105 0 ∧ hi871 = M 105 0) ∨ (lo871 < M 105 0 ∧ M 105 0 < hi871) := by rcases hB871.1 with q | q <;> omega
      have hw0 : 1 ≤ N946 110 0 ∧ N946 110 0 ≤ 100 := by rw [a0]; split <;> omega
      have hw1 : 0 ≤ N946 110 1 ∧ N946 110 1 ≤ 100 := by rw [a1]; split <;> omega
      have hSF : ∀ j : Nat, 0 ≤ SF (N946 110) (N946 111) 2 j ∧ SF (N946 110) (N946 111) 2 j ≤ 999 := fun j => by
        show 0 ≤ 0 + (if N946 111 0 = (j : Int) then N946 110 0 else 0) + (if N946 111 1 = (j : Int) then N946 110 1 else 0) ∧ 0 + (if N946 111 0 = (j : Int) then N946 110 0 else 0) + (if N946 111 1 = (j : Int) then N946 110 1 else 0) ≤ 999
        split <;> split <;> omega
      have hok : okF (red (SF (N946 110) (N946 111) 2)) := okF_small (fun j => (hSF j).1) (fun j => (hSF j).2) (by have := cnt_SF (w := N946 110) (p := N946 111) 2 101; omega)
      have hred : ∀ j, j < 101 → red (SF (N946 110) (N946 111) 2) j = red (bstF (M 105 0) lo871 hi871) j := bst_two hB871.1 a0 b0 a1 b1
      refine vv_iconst (n := 2) X dL_law_946 ?_
      refine vv_aload X 10 rfl dL_law_947 ?_
      refine vv_aload X 11 rfl dL_law_949 ?_
      refine vv_aload X 12 rfl dL_law_951 ?_
      refine vv_callSI (As := [.int (zI 2), .ref (ad 110), .ref (ad 111), .ref (ad 112)]) (st := []) X 4 (c_L_tidy l D cA had N946 2 (by omega) (fun q hq => by
          rcases (show q = 0 ∨ q = 1 by omega) with w | w <;> subst w
          · rw [b0]; omega
          · rw [b1]; omega)) gL_law_L_tidy rfl (by decide +kernel) ⟨by decide, by decide⟩ (Nat.le_of_ble_eq_true rfl) ⟨Nat.le_of_ble_eq_true rfl, Nat.le_of_ble_eq_true rfl⟩ rfl rfl dL_law_953 (fun z953 Mc953 q_953 => ?_)
      obtain ⟨T953, G953, S953, B953⟩ := q_953
      have cl_Mc953 : ∀ a, a < 105 → Mc953 a = M a := fun a ha => (G953 a (by simp; omega)).trans (cl_946 a ha)
      refine vv_pop X rfl dL_law_956 ?_
      refine vv_aload X 12 rfl dL_law_957 ?_
      refine vv_aload_n X 5 rfl rfl dL_law_959 ?_
      refine vv_aload X 7 rfl dL_law_960 ?_
      refine vv_aload X 8 rfl dL_law_962 ?_
      refine vv_callSV (As := [.ref (ad 112), .ref (ad 105), .ref (ad 107), .ref (ad 108)]) (st := []) X 4 (c_L_take l D cA had Mc953 (by omega)) gL_law_L_take rfl (by decide +kernel) ⟨by decide, by decide⟩ (Nat.le_of_ble_eq_true rfl) ⟨Nat.le_of_ble_eq_true rfl, Nat.le_of_ble_eq_true rfl⟩ rfl rfl dL_law_964 (fun Mc964 q_964 => ?_)
      obtain ⟨A964, U964, J964⟩ := q_964
      have cl_Mc964 : ∀ a, a < 105 → Mc964 a = M a := fun a ha => (A964 a (by simp; omega)).trans (cl_Mc953 a ha)
      refine vv_aload_n X 4 rfl rfl dL_law_967 ?_
      refine vv_callVI (As := []) (st := []) (Nf := 9) X 0 (c_X8_adopt l D cA had Mc964   (HI_c hR.2.2 cl_Mc964) (WF_c hR.2.1 cl_Mc964)) gL_law_X8_adopt rfl (by decide +kernel) ⟨by decide, by decide⟩ (Nat.le_of_ble_eq_true rfl) ⟨Nat.le_of_ble_eq_true rfl, Nat.le_of_ble_eq_true rfl⟩ rfl (by decide) sh_90 rfl rfl dL_law_968 (fun z968 Mc968 q_968 => ?_)
      obtain ⟨⟨o968, _, _, hi968, kp968, _⟩, _⟩ := q_968
      rw [vC_c cl_Mc964] at o968
      obtain ⟨ez, eA, eW⟩ := det_B hR.1 hR.2.1 o968 (show opB (vL M) (Mc953 112 16) ((vL M).1, (vL M).2.1, (vL M).2.2.1, Mc953 112 16, (fun i => Mc953 112 (2 * i)), (fun i => Mc953 112 (2 * i + 1))) from ⟨lo871, hi871, hB871, law_F1 hred hok S953⟩)
      refine vv_aload_n X 5 rfl rfl dL_law_971 ?_
      refine vv_iconst (n := 2) X dL_law_972 ?_
      refine vv_iald (z := (Mc953 112 16)) X (by decide) sh_105 (by decide) (by omega) (by rw [kp968 105 (by omega), U964]; exact uz_s _ _ _) dL_law_973 ?_
      refine vv_icmp_eq (tgt := 979) X (by omega) (by omega) dL_law_974 (by decide) (fun c_974 => ?_) (fun c_974 => ?_)
      · skip
        refine vv_goto (tgt := 1029) X (by decide) dL_law_979 ?_
        refine vv_sub (lv' := [(0, .ref b), (1, .ref (ad 90)), (2, .ref (ad 105)), (3, .ref (ad 106)), (4, .ref (ad 107)), (5, .ref (ad 108)), (6, .ref (ad 109)), (7, .ref (ad 110)), (8, .ref (ad 111)), (9, .ref (ad 112)), (10, .int (zI i)), (11, .int (zI x))]) [3, 4, 5, 6, 7, 8, 9, 10, 11, 12, 13, 14] rfl ?_
        exact nx _ (RLL_of hi968 eW eA (fun _ _ => rfl) (prt_L (M := M) (m := Mc953 112 16) (by rw [kp968 105 (by omega), U964, G953 105 (by decide), EN946 105 (by decide)]) ((kp968 106 (by omega)).trans ((A964 106 (by decide)).trans ((G953 106 (by decide)).trans (EN946 106 (by decide))))) (fun k9 hk9 => by
          obtain ⟨q1, q2⟩ := J964 k9 hk9
          rw [kp968 107 (by omega), kp968 108 (by omega)]
          exact ⟨q1.symm, q2.symm⟩)))
      · skip
        omega
