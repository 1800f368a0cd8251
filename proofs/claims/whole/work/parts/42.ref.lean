theorem u_X9_takes_9 : ∀ w ∈ u_ws RX9 TX9 20, w ∈ wsX9_takes := by decide +kernel
theorem k_X9_takes_25 : Cond.fieldLink yX9_takes.cls 25 (TX9 7).1 (TX9 7).2.1 (TX9 7).2.2.1 ∈ wsX9_takes := by decide +kernel
theorem k_X9_takes_28 : Cond.fieldLink yX9_takes.cls 28 (TX9 8).1 (TX9 8).2.1 (TX9 8).2.2.1 ∈ wsX9_takes := by decide +kernel
theorem k_X9_takes_72 : Cond.fieldLink yX9_takes.cls 72 (TX9 9).1 (TX9 9).2.1 (TX9 9).2.2.1 ∈ wsX9_takes := by decide +kernel
set_option maxRecDepth 100000 in
set_option maxHeartbeats 4000000 in
theorem c_X9_takes (l : Launch) (D : va_G) {ad : Nat → Nat} (cA : Nat → ClassId) (had : adok ad) (M : Mem) (v x : Int) (F : Nat → Int) (hv : 0 ≤ v) (hvb : v ≤ 2147483647) (hx : 0 ≤ x ∧ x ≤ 999) (hvx : v = 0 ∨ x ≤ 100) (hF : ∀ j, 0 ≤ F j) (hS : SplitOf F (M 105 9) (M 111) (M 112)) (hm : M 105 9 ≤ 7) : CtV l yX9_takes wsX9_takes 0 0 D ad cA [.ref (ad 105), .int (zI v), .int (zI x)] M (fun M1 => eqx M M1 [105, 111, 112] ∧ (∀ k : Nat, k ≠ 9 → M1 105 k = M 105 k) ∧ SplitOf (fadd F x v) (M1 105 9) (M1 111) (M1 112) ∧ M1 105 9 ≤ M 105 9 + 1) := by
  refine CtV.of (cc := cX9_takes) (maxL := 5) (ret := none) had (by decide) rfl (Nat.le_of_ble_eq_true rfl) ?_
  intro p e s m args below meth c X hm
  show VV p l e { frames := 0, cells := 0, slots := 0, locals := 0 } s m args below meth c 5 D ad cA (Afr ad s.heap.size) 0 0 (QV below args s D ad cA (fun M1 => eqx M M1 [105, 111, 112] ∧ (∀ k : Nat, k ≠ 9 → M1 105 k = M 105 k) ∧ SplitOf (fadd F x v) (M1 105 9) (M1 111) (M1 112) ∧ M1 105 9 ≤ M 105 9 + 1)) M 0 [(0, .ref (ad 105)), (1, .int (zI v)), (2, .int (zI x))] []
  have hm0 : 0 ≤ M 105 9 := by rw [hS.1]; exact (cnt_b F 101).1
  have hpr : ∀ i : Nat, (i : Int) < M 105 9 → 0 ≤ M 112 i ∧ M 112 i ≤ 100 := fun i q => (hS.2 i q).1
  have hinc : ∀ i j : Nat, i < j → (j : Int) < M 105 9 → M 112 i < M 112 j := fun i j q1 q2 => SplitOf_inc hS q1 q2
  refine vv_aload_n X 0 rfl rfl dX9_takes_0 ?_
  refine vv_geti (Nf := 20) (ref := (TX9 9).1) (z := (M 105 9)) X (by decide) sh_105 rfl 9 (by decide) u_X9_takes_9 k_X9_takes_72 rfl rfl (rfl) dX9_takes_1 ?_
  refine vv_istore_n (lv' := [(3, .int (zI (M 105 9))), (0, .ref (ad 105)), (1, .int (zI v)), (2, .int (zI x))]) X rfl (by decide) rfl dX9_takes_4 ?_
  have loop_5 : ∀ (n : Nat)  (a3 : Int), 0 ≤ a3 ∧ a3 ≤ M 105 9 → (∀ i : Nat, a3 ≤ (i : Int) → (i : Int) < M 105 9 → x < M 112 i) → a3.toNat < n → VV p l e { frames := 0, cells := 0, slots := 0, locals := 0 } s m args below meth c 5 D ad cA (Afr ad s.heap.size) 0 0 (QV below args s D ad cA (fun M1 => eqx M M1 [105, 111, 112] ∧ (∀ k : Nat, k ≠ 9 → M1 105 k = M 105 k) ∧ SplitOf (fadd F x v) (M1 105 9) (M1 111) (M1 112) ∧ M1 105 9 ≤ M 105 9 + 1)) M 5 [(0, .ref (ad 105)), (1, .int (zI v)), (2, .int (zI x)), (3, .int (zI a3))] [] := by
    intro n
    induction n with
    | zero => intro a3 h3 hg hn; exact absurd hn (Nat.not_lt_zero _)
    | succ n ih_5 =>
      intro a3 h3 hg hn
      have hp1 : 0 < a3 → 0 ≤ M 112 (a3 - 1).toNat ∧ M 112 (a3 - 1).toNat ≤ 100 := fun q => hpr _ (by omega)
      refine vv_iload_n X 3 rfl rfl dX9_takes_5 ?_
      refine vv_if_le (tgt := 27) X (by omega) dX9_takes_6 (by decide) (fun c_6 => ?_) (fun c_6 => ?_)
      · skip
        have hlo : ∀ i : Nat, (i : Int) < a3 - 1 → M 112 i < M 112 (a3 - 1).toNat := fun i q => hinc i _ (by omega) (by omega)
        have hle : 0 < a3 → M 112 (a3 - 1).toNat ≤ x := fun q => by omega
        refine vv_iload_n X 3 rfl rfl dX9_takes_27 ?_
        refine vv_if_le (tgt := 58) X (by omega) dX9_takes_28 (by decide) (fun c_28 => ?_) (fun c_28 => ?_)
        · skip
          refine vv_iload_n X 1 rfl rfl dX9_takes_58 ?_
          refine vv_if_le (tgt := 136) X (by omega) dX9_takes_59 (by decide) (fun c_59 => ?_) (fun c_59 => ?_)
          · skip
            exact vv_vret X hm (⟨eqx_rf _ _, fun k _ => rfl, by rw [show v = 0 by omega, fadd_0]; exact hS, by omega⟩) dX9_takes_136
          · skip
            refine vv_aload_n X 0 rfl rfl dX9_takes_62 ?_
            refine vv_geti (Nf := 20) (ref := (TX9 9).1) (z := (M 105 9)) X (by decide) sh_105 rfl 9 (by decide) u_X9_takes_9 k_X9_takes_72 rfl rfl (rfl) dX9_takes_63 ?_
            refine vv_istore (lv' := [(4, .int (zI (M 105 9))), (0, .ref (ad 105)), (1, .int (zI v)), (2, .int (zI x)), (3, .int (zI a3))]) X (by decide) rfl dX9_takes_66 ?_
            have loop_68 : ∀ (n : Nat) (M_68 : Mem) (a4 : Int), a3 ≤ a4 ∧ a4 ≤ M 105 9 → eqx M M_68 [111, 112] → (∀ j : Nat, M_68 111 j = (if (j : Int) ≤ a4 ∨ M 105 9 < (j : Int) then M 111 j else M 111 (j - 1)) ∧ M_68 112 j = (if (j : Int) ≤ a4 ∨ M 105 9 < (j : Int) then M 112 j else M 112 (j - 1))) → (a4 - a3).toNat < n → VV p l e { frames := 0, cells := 0, slots := 0, locals := 0 } s m args below meth c 5 D ad cA (Afr ad s.heap.size) 0 0 (QV below args s D ad cA (fun M1 => eqx M M1 [105, 111, 112] ∧ (∀ k : Nat, k ≠ 9 → M1 105 k = M 105 k) ∧ SplitOf (fadd F x v) (M1 105 9) (M1 111) (M1 112) ∧ M1 105 9 ≤ M 105 9 + 1)) M_68 68 [(0, .ref (ad 105)), (1, .int (zI v)), (2, .int (zI x)), (3, .int (zI a3)), (4, .int (zI a4))] [] := by
              intro n
              induction n with
              | zero => intro M_68 a4 k4 kE kj hn; exact absurd hn (Nat.not_lt_zero _)
              | succ n ih_68 =>
                intro M_68 a4 k4 kE kj hn
                have e_68_105 : M_68 105 = M 105 := kE 105 (by decide)
                have kja := kj (a4 - 1).toNat
                rw [if_pos (by omega), if_pos (by omega)] at kja
                refine vv_iload X 4 rfl dX9_takes_68 ?_
                refine vv_iload_n X 3 rfl rfl dX9_takes_70 ?_
                refine vv_icmp_le (tgt := 112) X (by omega) (by omega) dX9_takes_71 (by decide) (fun c_71 => ?_) (fun c_71 => ?_)
                · skip
                  refine vv_aload_n X 0 rfl rfl dX9_takes_112 ?_
                  refine vv_getr (Nf := 20) (ref := (TX9 7).1) X (by decide) sh_105 rfl 7 (by decide) u_X9_takes_9 k_X9_takes_25 rfl rfl dX9_takes_113 ?_
                  refine vv_iload_n X 3 rfl rfl dX9_takes_116 ?_
                  refine vv_iload_n X 1 rfl rfl dX9_takes_117 ?_
                  refine vv_iast (ix := (Int.toNat a3)) X (by decide) sh_111 (by decide) (by omega) (rfl) dX9_takes_118 ?_
                  refine vv_aload_n X 0 rfl rfl dX9_takes_119 ?_
                  refine vv_getr (Nf := 20) (ref := (TX9 8).1) X (by decide) sh_105 rfl 8 (by decide) u_X9_takes_9 k_X9_takes_28 rfl rfl dX9_takes_120 ?_
                  refine vv_iload_n X 3 rfl rfl dX9_takes_123 ?_
                  refine vv_iload_n X 2 rfl rfl dX9_takes_124 ?_
                  refine vv_iast (ix := (Int.toNat a3)) X (by decide) sh_112 (by decide) (by omega) (rfl) dX9_takes_125 ?_
                  refine vv_aload_n X 0 rfl rfl dX9_takes_126 ?_
                  refine vv_dup X rfl dX9_takes_127 ?_
                  refine vv_geti (Nf := 20) (ref := (TX9 9).1) (z := (M 105 9)) X (by decide) sh_105 rfl 9 (by decide) u_X9_takes_9 k_X9_takes_72 rfl rfl (show M_68 105 9 = M 105 9 from by rw [e_68_105]) dX9_takes_128 ?_
                  refine vv_iconst (n := 1) X dX9_takes_131 ?_
                  refine vv_iadd X dX9_takes_132 ?_
                  refine vv_puti (Nf := 20) (ref := (TX9 9).1) X (by decide) sh_105 rfl 9 (by decide) u_X9_takes_9 k_X9_takes_72 rfl tyX9_ok nmX9 rfl (by decide +kernel) rfl rfl dX9_takes_133 ?_
                  exact vv_vret X hm (by
                    refine ⟨eqx_up _ _ (eqx_up _ _ (eqx_up _ _ (eqx_mono kE (by decide)) (by decide)) (by decide)) (by decide), fun k hk => ?_, ?_, ?_⟩
                    · rw [up2_m _ _ _ hk, up2_n _ _ _ (by decide), up2_n _ _ _ (by decide), e_68_105]
                    · have hx1 : x ≤ 100 := by omega
                      have hlt : ∀ j : Nat, j < a3.toNat → M 112 j < x := fun j hj => by
                        have h1 : 0 < a3 := by omega
                        have h2 := hle h1
                        rcases (show j = (a3 - 1).toNat ∨ (j : Int) < a3 - 1 by omega) with q | q
                        · rw [q]; omega
                        · have := hlo j q; omega
                      rw [show up2 (up2 (up2 M_68 111 a3.toNat v) 112 a3.toNat x) 105 9 (M 105 9 + 1) 105 9 = M 105 9 + 1 from up2_s _ _ _ _]
                      refine SplitOf_ins hS hF ⟨hx.1, hx1⟩ (by omega) (i := a3.toNat) (by omega) hlt (fun j q1 q2 => hg j (by omega) q2) (fun j hj => ?_)
                      have kjj := kj j
                      show uz (M_68 111) a3.toNat v j = _ ∧ uz (M_68 112) a3.toNat x j = _
                      unfold uz
                      by_cases q : j < a3.toNat
                      · have hne : ¬ j = a3.toNat := by omega
                        simp only [if_neg hne, if_pos q]
                        rw [kjj.1, kjj.2, if_pos (by omega), if_pos (by omega)]
                        exact ⟨rfl, rfl⟩
                      · rw [if_neg q, if_neg q]
                        by_cases z : j = a3.toNat
                        · simp only [if_pos z]
                          exact ⟨trivial, trivial⟩
                        · simp only [if_neg z]
                          rw [kjj.1, kjj.2, if_neg (by omega), if_neg (by omega)]
                          exact ⟨rfl, rfl⟩
                    · rw [up2_s]; omega) dX9_takes_136
                · skip
                  refine vv_aload_n X 0 rfl rfl dX9_takes_74 ?_
                  refine vv_getr (Nf := 20) (ref := (TX9 7).1) X (by decide) sh_105 rfl 7 (by decide) u_X9_takes_9 k_X9_takes_25 rfl rfl dX9_takes_75 ?_
                  refine vv_iload X 4 rfl dX9_takes_78 ?_
                  refine vv_aload_n X 0 rfl rfl dX9_takes_80 ?_
                  refine vv_getr (Nf := 20) (ref := (TX9 7).1) X (by decide) sh_105 rfl 7 (by decide) u_X9_takes_9 k_X9_takes_25 rfl rfl dX9_takes_81 ?_
                  refine vv_iload X 4 rfl dX9_takes_84 ?_
                  refine vv_iconst (n := 1) X dX9_takes_86 ?_
                  refine vv_isub X dX9_takes_87 ?_
                  refine vv_iald (z := (M_68 111 (Int.toNat (a4 - 1)))) X (by decide) sh_111 (by decide) (by omega) (rfl) dX9_takes_88 ?_
                  refine vv_iast (ix := (Int.toNat a4)) X (by decide) sh_111 (by decide) (by omega) (rfl) dX9_takes_89 ?_
                  refine vv_aload_n X 0 rfl rfl dX9_takes_90 ?_
                  refine vv_getr (Nf := 20) (ref := (TX9 8).1) X (by decide) sh_105 rfl 8 (by decide) u_X9_takes_9 k_X9_takes_28 rfl rfl dX9_takes_91 ?_
                  refine vv_iload X 4 rfl dX9_takes_94 ?_
                  refine vv_aload_n X 0 rfl rfl dX9_takes_96 ?_
                  refine vv_getr (Nf := 20) (ref := (TX9 8).1) X (by decide) sh_105 rfl 8 (by decide) u_X9_takes_9 k_X9_takes_28 rfl rfl dX9_takes_97 ?_
                  refine vv_iload X 4 rfl dX9_takes_100 ?_
                  refine vv_iconst (n := 1) X dX9_takes_102 ?_
                  refine vv_isub X dX9_takes_103 ?_
                  refine vv_iald (z := (M_68 112 (Int.toNat (a4 - 1)))) X (by decide) sh_112 (by decide) (by omega) (rfl) dX9_takes_104 ?_
                  refine vv_iast (ix := (Int.toNat a4)) X (by decide) sh_112 (by decide) (by omega) (rfl) dX9_takes_105 ?_
                  refine vv_iinc (lv' := [(4, .int (zI (a4 + (-1)))), (0, .ref (ad 105)), (1, .int (zI v)), (2, .int (zI x)), (3, .int (zI a3))]) X 4 rfl (by decide) rfl dX9_takes_106 ?_
                  refine vv_goto (tgt := 68) X (by decide) dX9_takes_109 ?_
                  refine vv_sub (lv' := [(0, .ref (ad 105)), (1, .int (zI v)), (2, .int (zI x)), (3, .int (zI a3)), (4, .int (zI (a4 + (-1))))]) [1, 2, 3, 4, 0] rfl ?_
                  exact ih_68 (up2 (up2 M_68 111 (Int.toNat a4) (M_68 111 (Int.toNat (a4 - 1)))) 112 (Int.toNat a4) (M_68 112 (Int.toNat (a4 - 1)))) (a4 + (-1)) (by omega) (eqx_up _ _ (eqx_up _ _ kE (by decide)) (by decide)) (fun j => by
                    have kjj := kj j
                    by_cases q : j = a4.toNat
                    · rw [if_neg (by omega), if_neg (by omega), q, show a4.toNat - 1 = (a4 - 1).toNat by omega]
                      exact ⟨(uz_s (M_68 111) _ _).trans kja.1, (uz_s (M_68 112) _ _).trans kja.2⟩
                    · have e : ((j : Int) ≤ a4 + -1 ∨ M 105 9 < (j : Int)) ↔ ((j : Int) ≤ a4 ∨ M 105 9 < (j : Int)) := by omega
                      simp only [e]
                      exact ⟨(uz_n (M_68 111) _ q).trans kjj.1, (uz_n (M_68 112) _ q).trans kjj.2⟩) (by omega)
            refine vv_sub (lv' := [(0, .ref (ad 105)), (1, .int (zI v)), (2, .int (zI x)), (3, .int (zI a3)), (4, .int (zI (M 105 9)))]) [1, 2, 3, 4, 0] rfl ?_
            exact loop_68 _ M (M 105 9) (by omega) (eqx_rf _ _) (fun j => by rw [if_pos (by omega), if_pos (by omega)]; exact ⟨rfl, rfl⟩) (Nat.lt_succ_self _)
        · skip
          refine vv_aload_n X 0 rfl rfl dX9_takes_31 ?_
          refine vv_getr (Nf := 20) (ref := (TX9 8).1) X (by decide) sh_105 rfl 8 (by decide) u_X9_takes_9 k_X9_takes_28 rfl rfl dX9_takes_32 ?_
          refine vv_iload_n X 3 rfl rfl dX9_takes_35 ?_
          refine vv_iconst (n := 1) X dX9_takes_36 ?_
          refine vv_isub X dX9_takes_37 ?_
          refine vv_iald (z := (M 112 (Int.toNat (a3 - 1)))) X (by decide) sh_112 (by decide) (by omega) (rfl) dX9_takes_38 ?_
          refine vv_iload_n X 2 rfl rfl dX9_takes_39 ?_
          refine vv_icmp_ne (tgt := 58) X (by omega) (by omega) dX9_takes_40 (by decide) (fun c_40 => ?_) (fun c_40 => ?_)
          · skip
            refine vv_iload_n X 1 rfl rfl dX9_takes_58 ?_
            refine vv_if_le (tgt := 136) X (by omega) dX9_takes_59 (by decide) (fun c_59 => ?_) (fun c_59 => ?_)
            · skip
              exact vv_vret X hm (⟨eqx_rf _ _, fun k _ => rfl, by rw [show v = 0 by omega, fadd_0]; exact hS, by omega⟩) dX9_takes_136
            · skip
              refine vv_aload_n X 0 rfl rfl dX9_takes_62 ?_
              refine vv_geti (Nf := 20) (ref := (TX9 9).1) (z := (M 105 9)) X (by decide) sh_105 rfl 9 (by decide) u_X9_takes_9 k_X9_takes_72 rfl rfl (rfl) dX9_takes_63 ?_
              refine vv_istore (lv' := [(4, .int (zI (M 105 9))), (0, .ref (ad 105)), (1, .int (zI v)), (2, .int (zI x)), (3, .int (zI a3))]) X (by decide) rfl dX9_takes_66 ?_
              have loop_68 : ∀ (n : Nat) (M_68 : Mem) (a4 : Int), a3 ≤ a4 ∧ a4 ≤ M 105 9 → eqx M M_68 [111, 112] → (∀ j : Nat, M_68 111 j = (if (j : Int) ≤ a4 ∨ M 105 9 < (j : Int) then M 111 j else M 111 (j - 1)) ∧ M_68 112 j = (if (j : Int) ≤ a4 ∨ M 105 9 < (j : Int) then M 112 j else M 112 (j - 1))) → (a4 - a3).toNat < n → VV p l e { frames := 0, cells := 0, slots := 0, locals := 0 } s m args below meth c 5 D ad cA (Afr ad s.heap.size) 0 0 (QV below args s D ad cA (fun M1 => eqx M M1 [105, 111, 112] ∧ (∀ k : Nat, k ≠ 9 → M1 105 k = M 105 k) ∧ SplitOf (fadd F x v) (M1 105 9) (M1 111) (M1 112) ∧ M1 105 9 ≤ M 105 9 + 1)) M_68 68 [(0, .ref (ad 105)), (1, .int (zI v)), (2, .int (zI x)), (3, .int (zI a3)), (4, .int (zI a4))] [] := by
                intro n
                induction n with
                | zero => intro M_68 a4 k4 kE kj hn; exact absurd hn (Nat.not_lt_zero _)
                | succ n ih_68 =>
                  intro M_68 a4 k4 kE kj hn
                  have e_68_105 : M_68 105 = M 105 := kE 105 (by decide)
                  have kja := kj (a4 - 1).toNat
                  rw [if_pos (by omega), if_pos (by omega)] at kja
                  refine vv_iload X 4 rfl dX9_takes_68 ?_
                  refine vv_iload_n X 3 rfl rfl dX9_takes_70 ?_
                  refine vv_icmp_le (tgt := 112) X (by omega) (by omega) dX9_takes_71 (by decide) (fun c_71 => ?_) (fun c_71 => ?_)
                  · skip
                    refine vv_aload_n X 0 rfl rfl dX9_takes_112 ?_
                    refine vv_getr (Nf := 20) (ref := (TX9 7).1) X (by decide) sh_105 rfl 7 (by decide) u_X9_takes_9 k_X9_takes_25 rfl rfl dX9_takes_113 ?_
                    refine vv_iload_n X 3 rfl rfl dX9_takes_116 ?_
                    refine vv_iload_n X 1 rfl rfl dX9_takes_117 ?_
                    refine vv_iast (ix := (Int.toNat a3)) X (by decide) sh_111 (by decide) (by omega) (rfl) dX9_takes_118 ?_
                    refine vv_aload_n X 0 rfl rfl dX9_takes_119 ?_
                    refine vv_getr (Nf := 20) (ref := (TX9 8).1) X (by decide) sh_105 rfl 8 (by decide) u_X9_takes_9 k_X9_takes_28 rfl rfl dX9_takes_120 ?_
                    refine vv_iload_n X 3 rfl rfl dX9_takes_123 ?_
                    refine vv_iload_n X 2 rfl rfl dX9_takes_124 ?_
                    refine vv_iast (ix := (Int.toNat a3)) X (by decide) sh_112 (by decide) (by omega) (rfl) dX9_takes_125 ?_
                    refine vv_aload_n X 0 rfl rfl dX9_takes_126 ?_
                    refine vv_dup X rfl dX9_takes_127 ?_
                    refine vv_geti (Nf := 20) (ref := (TX9 9).1) (z := (M 105 9)) X (by decide) sh_105 rfl 9 (by decide) u_X9_takes_9 k_X9_takes_72 rfl rfl (show M_68 105 9 = M 105 9 from by rw [e_68_105]) dX9_takes_128 ?_
                    refine vv_iconst (n := 1) X dX9_takes_131 ?_
                    refine vv_iadd X dX9_takes_132 ?_
                    refine vv_puti (Nf := 20) (ref := (TX9 9).1) X (by decide) sh_105 rfl 9 (by decide) u_X9_takes_9 k_X9_takes_72 rfl tyX9_ok nmX9 rfl (by decide +kernel) rfl rfl dX9_takes_133 ?_
                    exact vv_vret X hm (by
                      refine ⟨eqx_up _ _ (eqx_up _ _ (eqx_up _ _ (eqx_mono kE (by decide)) (by decide)) (by decide)) (by decide), fun k hk => ?_, ?_, ?_⟩
                      · rw [up2_m _ _ _ hk, up2_n _ _ _ (by decide), up2_n _ _ _ (by decide), e_68_105]
                      · have hx1 : x ≤ 100 := by omega
                        have hlt : ∀ j : Nat, j < a3.toNat → M 112 j < x := fun j hj => by
                          have h1 : 0 < a3 := by omega
                          have h2 := hle h1
                          rcases (show j = (a3 - 1).toNat ∨ (j : Int) < a3 - 1 by omega) with q | q
                          · rw [q]; omega
                          · have := hlo j q; omega
                        rw [show up2 (up2 (up2 M_68 111 a3.toNat v) 112 a3.toNat x) 105 9 (M 105 9 + 1) 105 9 = M 105 9 + 1 from up2_s _ _ _ _]
                        refine SplitOf_ins hS hF ⟨hx.1, hx1⟩ (by omega) (i := a3.toNat) (by omega) hlt (fun j q1 q2 => hg j (by omega) q2) (fun j hj => ?_)
                        have kjj := kj j
                        show uz (M_68 111) a3.toNat v j = _ ∧ uz (M_68 112) a3.toNat x j = _
                        unfold uz
                        by_cases q : j < a3.toNat
                        · have hne : ¬ j = a3.toNat := by omega
                          simp only [if_neg hne, if_pos q]
                          rw [kjj.1, kjj.2, if_pos (by omega), if_pos (by omega)]
                          exact ⟨rfl, rfl⟩
                        · rw [if_neg q, if_neg q]
                          by_cases z : j = a3.toNat
                          · simp only [if_pos z]
                            exact ⟨trivial, trivial⟩
                          · simp only [if_neg z]
                            rw [kjj.1, kjj.2, if_neg (by omega), if_neg (by omega)]
                            exact ⟨rfl, rfl⟩
                      · rw [up2_s]; omega) dX9_takes_136
                  · skip
                    refine vv_aload_n X 0 rfl rfl dX9_takes_74 ?_
                    refine vv_getr (Nf := 20) (ref := (TX9 7).1) X (by decide) sh_105 rfl 7 (by decide) u_X9_takes_9 k_X9_takes_25 rfl rfl dX9_takes_75 ?_
                    refine vv_iload X 4 rfl dX9_takes_78 ?_
                    refine vv_aload_n X 0 rfl rfl dX9_takes_80 ?_
                    refine vv_getr (Nf := 20) (ref := (TX9 7).1) X (by decide) sh_105 rfl 7 (by decide) u_X9_takes_9 k_X9_takes_25 rfl rfl dX9_takes_81 ?_
                    refine vv_iload X 4 rfl dX9_takes_84 ?_
                    refine vv_iconst (n := 1) X dX9_takes_86 ?_
                    refine vv_isub X dX9_takes_87 ?_
                    refine vv_iald (z := (M_68 111 (Int.toNat (a4 - 1)))) X (by decide) sh_111 (by decide) (by omega) (rfl) dX9_takes_88 ?_
                    refine vv_iast (ix := (Int.toNat a4)) X (by decide) sh_111 (by decide) (by omega) (rfl) dX9_takes_89 ?_
                    refine vv_aload_n X 0 rfl rfl dX9_takes_90 ?_
                    refine vv_getr (Nf := 20) (ref := (TX9 8).1) X (by decide) sh_105 rfl 8 (by decide) u_X9_takes_9 k_X9_takes_28 rfl rfl dX9_takes_91 ?_
                    refine vv_iload X 4 rfl dX9_takes_94 ?_
                    refine vv_aload_n X 0 rfl rfl dX9_takes_96 ?_
                    refine vv_getr (Nf := 20) (ref := (TX9 8).1) X (by decide) sh_105 rfl 8 (by decide) u_X9_takes_9 k_X9_takes_28 rfl rfl dX9_takes_97 ?_
                    refine vv_iload X 4 rfl dX9_takes_100 ?_
                    refine vv_iconst (n := 1) X dX9_takes_102 ?_
                    refine vv_isub X dX9_takes_103 ?_
                    refine vv_iald (z := (M_68 112 (Int.toNat (a4 - 1)))) X (by decide) sh_112 (by decide) (by omega) (rfl) dX9_takes_104 ?_
                    refine vv_iast (ix := (Int.toNat a4)) X (by decide) sh_112 (by decide) (by omega) (rfl) dX9_takes_105 ?_
                    refine vv_iinc (lv' := [(4, .int (zI (a4 + (-1)))), (0, .ref (ad 105)), (1, .int (zI v)), (2, .int (zI x)), (3, .int (zI a3))]) X 4 rfl (by decide) rfl dX9_takes_106 ?_
                    refine vv_goto (tgt := 68) X (by decide) dX9_takes_109 ?_
                    refine vv_sub (lv' := [(0, .ref (ad 105)), (1, .int (zI v)), (2, .int (zI x)), (3, .int (zI a3)), (4, .int (zI (a4 + (-1))))]) [1, 2, 3, 4, 0] rfl ?_
                    exact ih_68 (up2 (up2 M_68 111 (Int.toNat a4) (M_68 111 (Int.toNat (a4 - 1)))) 112 (Int.toNat a4) (M_68 112 (Int.toNat (a4 - 1)))) (a4 + (-1)) (by omega) (eqx_up _ _ (eqx_up _ _ kE (by decide)) (by decide)) (fun j => by
                      have kjj := kj j
                      by_cases q : j = a4.toNat
                      · rw [if_neg (by omega), if_neg (by omega), q, show a4.toNat - 1 = (a4 - 1).toNat by omega]
                        exact ⟨(uz_s (M_68 111) _ _).trans kja.1, (uz_s (M_68 112) _ _).trans kja.2⟩
                      · have e : ((j : Int) ≤ a4 + -1 ∨ M 105 9 < (j : Int)) ↔ ((j : Int) ≤ a4 ∨ M 105 9 < (j : Int)) := by omega
                        simp only [e]
                        exact ⟨(uz_n (M_68 111) _ q).trans kjj.1, (uz_n (M_68 112) _ q).trans kjj.2⟩) (by omega)
              refine vv_sub (lv' := [(0, .ref (ad 105)), (1, .int (zI v)), (2, .int (zI x)), (3, .int (zI a3)), (4, .int (zI (M 105 9)))]) [1, 2, 3, 4, 0] rfl ?_
              exact loop_68 _ M (M 105 9) (by omega) (eqx_rf _ _) (fun j => by rw [if_pos (by omega), if_pos (by omega)]; exact ⟨rfl, rfl⟩) (Nat.lt_succ_self _)
          · skip
            refine vv_aload_n X 0 rfl rfl dX9_takes_43 ?_
            refine vv_getr (Nf := 20) (ref := (TX9 7).1) X (by decide) sh_105 rfl 7 (by decide) u_X9_takes_9 k_X9_takes_25 rfl rfl dX9_takes_44 ?_
            refine vv_iload_n X 3 rfl rfl dX9_takes_47 ?_
            refine vv_iconst (n := 1) X dX9_takes_48 ?_
            refine vv_isub X dX9_takes_49 ?_
            refine vv_dup2 X rfl rfl dX9_takes_50 ?_
            refine vv_iald (z := (M 111 (Int.toNat (a3 - 1)))) X (by decide) sh_111 (by decide) (by omega) (rfl) dX9_takes_51 ?_
            refine vv_iload_n X 1 rfl rfl dX9_takes_52 ?_
            refine vv_iadd X dX9_takes_53 ?_
            refine vv_iast (ix := (Int.toNat (a3 - 1))) X (by decide) sh_111 (by decide) (by omega) (rfl) dX9_takes_54 ?_
            refine vv_goto (tgt := 136) X (by decide) dX9_takes_55 ?_
            exact vv_vret X hm (⟨eqx_mono (eqx_up _ _ (eqx_rf _ [111]) (by decide)) (by decide), fun k _ => rfl, show SplitOf (fadd F x v) (M 105 9) (uz (M 111) (a3 - 1).toNat (M 111 (a3 - 1).toNat + v)) (M 112) from SplitOf_more hS hx.1 hv (i := (a3 - 1).toNat) (by omega) (by omega) (fun j hj => ⟨by
              by_cases q : j = (a3 - 1).toNat
              · rw [if_pos q, q]
                exact uz_s _ _ _
              · rw [if_neg q]
                exact uz_n _ _ q, rfl⟩), by show M 105 9 ≤ M 105 9 + 1; omega⟩) dX9_takes_136
      · skip
        refine vv_aload_n X 0 rfl rfl dX9_takes_9 ?_
        refine vv_getr (Nf := 20) (ref := (TX9 8).1) X (by decide) sh_105 rfl 8 (by decide) u_X9_takes_9 k_X9_takes_28 rfl rfl dX9_takes_10 ?_
        refine vv_iload_n X 3 rfl rfl dX9_takes_13 ?_
        refine vv_iconst (n := 1) X dX9_takes_14 ?_
        refine vv_isub X dX9_takes_15 ?_
        refine vv_iald (z := (M 112 (Int.toNat (a3 - 1)))) X (by decide) sh_112 (by decide) (by omega) (rfl) dX9_takes_16 ?_
        refine vv_iload_n X 2 rfl rfl dX9_takes_17 ?_
        refine vv_icmp_le (tgt := 27) X (by omega) (by omega) dX9_takes_18 (by decide) (fun c_18 => ?_) (fun c_18 => ?_)
        · skip
          have hlo : ∀ i : Nat, (i : Int) < a3 - 1 → M 112 i < M 112 (a3 - 1).toNat := fun i q => hinc i _ (by omega) (by omega)
          have hle : 0 < a3 → M 112 (a3 - 1).toNat ≤ x := fun q => by omega
          refine vv_iload_n X 3 rfl rfl dX9_takes_27 ?_
          refine vv_if_le (tgt := 58) X (by omega) dX9_takes_28 (by decide) (fun c_28 => ?_) (fun c_28 => ?_)
          · skip
            refine vv_iload_n X 1 rfl rfl dX9_takes_58 ?_
            refine vv_if_le (tgt := 136) X (by omega) dX9_takes_59 (by decide) (fun c_59 => ?_) (fun c_59 => ?_)
            · skip
              exact vv_vret X hm (⟨eqx_rf _ _, fun k _ => rfl, by rw [show v = 0 by omega, fadd_0]; exact hS, by omega⟩) dX9_takes_136
            · skip
              refine vv_aload_n X 0 rfl rfl dX9_takes_62 ?_
              refine vv_geti (Nf := 20) (ref := (TX9 9).1) (z := (M 105 9)) X (by decide) sh_105 rfl 9 (by decide) u_X9_takes_9 k_X9_takes_72 rfl rfl (rfl) dX9_takes_63 ?_
              refine vv_istore (lv' := [(4, .int (zI (M 105 9))), (0, .ref (ad 105)), (1, .int (zI v)), (2, .int (zI x)), (3, .int (zI a3))]) X (by decide) rfl dX9_takes_66 ?_
              have loop_68 : ∀ (n : Nat) (M_68 : Mem) (a4 : Int), a3 ≤ a4 ∧ a4 ≤ M 105 9 → eqx M M_68 [111, 112] → (∀ j : Nat, M_68 111 j = (if (j : Int) ≤ a4 ∨ M 105 9 < (j : Int) then M 111 j else M 111 (j - 1)) ∧ M_68 112 j = (if (j : Int) ≤ a4 ∨ M 105 9 < (j : Int) then M 112 j else M 112 (j - 1))) → (a4 - a3).toNat < n → VV p l e { frames := 0, cells := 0, slots := 0, locals := 0 } s m args below meth c 5 D ad cA (Afr ad s.heap.size) 0 0 (QV below args s D ad cA (fun M1 => eqx M M1 [105, 111, 112] ∧ (∀ k : Nat, k ≠ 9 → M1 105 k = M 105 k) ∧ SplitOf (fadd F x v) (M1 105 9) (M1 111) (M1 112) ∧ M1 105 9 ≤ M 105 9 + 1)) M_68 68 [(0, .ref (ad 105)), (1, .int (zI v)), (2, .int (zI x)), (3, .int (zI a3)), (4, .int (zI a4))] [] := by
                intro n
                induction n with
                | zero => intro M_68 a4 k4 kE kj hn; exact absurd hn (Nat.not_lt_zero _)
                | succ n ih_68 =>
                  intro M_68 a4 k4 kE kj hn
                  have e_68_105 : M_68 105 = M 105 := kE 105 (by decide)
                  have kja := kj (a4 - 1).toNat
                  rw [if_pos (by omega), if_pos (by omega)] at kja
                  refine vv_iload X 4 rfl dX9_takes_68 ?_
                  refine vv_iload_n X 3 rfl rfl dX9_takes_70 ?_
                  refine vv_icmp_le (tgt := 112) X (by omega) (by omega) dX9_takes_71 (by decide) (fun c_71 => ?_) (fun c_71 => ?_)
                  · skip
                    refine vv_aload_n X 0 rfl rfl dX9_takes_112 ?_
                    refine vv_getr (Nf := 20) (ref := (TX9 7).1) X (by decide) sh_105 rfl 7 (by decide) u_X9_takes_9 k_X9_takes_25 rfl rfl dX9_takes_113 ?_
                    refine vv_iload_n X 3 rfl rfl dX9_takes_116 ?_
                    refine vv_iload_n X 1 rfl rfl dX9_takes_117 ?_
                    refine vv_iast (ix := (Int.toNat a3)) X (by decide) sh_111 (by decide) (by omega) (rfl) dX9_takes_118 ?_
                    refine vv_aload_n X 0 rfl rfl dX9_takes_119 ?_
                    refine vv_getr (Nf := 20) (ref := (TX9 8).1) X (by decide) sh_105 rfl 8 (by decide) u_X9_takes_9 k_X9_takes_28 rfl rfl dX9_takes_120 ?_
                    refine vv_iload_n X 3 rfl rfl dX9_takes_123 ?_
                    refine vv_iload_n X 2 rfl rfl dX9_takes_124 ?_
                    refine vv_iast (ix := (Int.toNat a3)) X (by decide) sh_112 (by decide) (by omega) (rfl) dX9_takes_125 ?_
                    refine vv_aload_n X 0 rfl rfl dX9_takes_126 ?_
                    refine vv_dup X rfl dX9_takes_127 ?_
                    refine vv_geti (Nf := 20) (ref := (TX9 9).1) (z := (M 105 9)) X (by decide) sh_105 rfl 9 (by decide) u_X9_takes_9 k_X9_takes_72 rfl rfl (show M_68 105 9 = M 105 9 from by rw [e_68_105]) dX9_takes_128 ?_
                    refine vv_iconst (n := 1) X dX9_takes_131 ?_
                    refine vv_iadd X dX9_takes_132 ?_
                    refine vv_puti (Nf := 20) (ref := (TX9 9).1) X (by decide) sh_105 rfl 9 (by decide) u_X9_takes_9 k_X9_takes_72 rfl tyX9_ok nmX9 rfl (by decide +kernel) rfl rfl dX9_takes_133 ?_
                    exact vv_vret X hm (by
                      refine ⟨eqx_up _ _ (eqx_up _ _ (eqx_up _ _ (eqx_mono kE (by decide)) (by decide)) (by decide)) (by decide), fun k hk => ?_, ?_, ?_⟩
                      · rw [up2_m _ _ _ hk, up2_n _ _ _ (by decide), up2_n _ _ _ (by decide), e_68_105]
                      · have hx1 : x ≤ 100 := by omega
                        have hlt : ∀ j : Nat, j < a3.toNat → M 112 j < x := fun j hj => by
                          have h1 : 0 < a3 := by omega
                          have h2 := hle h1
                          rcases (show j = (a3 - 1).toNat ∨ (j : Int) < a3 - 1 by omega) with q | q
                          · rw [q]; omega
                          · have := hlo j q; omega
                        rw [show up2 (up2 (up2 M_68 111 a3.toNat v) 112 a3.toNat x) 105 9 (M 105 9 + 1) 105 9 = M 105 9 + 1 from up2_s _ _ _ _]
                        refine SplitOf_ins hS hF ⟨hx.1, hx1⟩ (by omega) (i := a3.toNat) (by omega) hlt (fun j q1 q2 => hg j (by omega) q2) (fun j hj => ?_)
                        have kjj := kj j
                        show uz (M_68 111) a3.toNat v j = _ ∧ uz (M_68 112) a3.toNat x j = _
                        unfold uz
                        by_cases q : j < a3.toNat
                        · have hne : ¬ j = a3.toNat := by omega
                          simp only [if_neg hne, if_pos q]
                          rw [kjj.1, kjj.2, if_pos (by omega), if_pos (by omega)]
                          exact ⟨rfl, rfl⟩
                        · rw [if_neg q, if_neg q]
                          by_cases z : j = a3.toNat
                          · simp only [if_pos z]
                            exact ⟨trivial, trivial⟩
                          · simp only [if_neg z]
                            rw [kjj.1, kjj.2, if_neg (by omega), if_neg (by omega)]
                            exact ⟨rfl, rfl⟩
                      · rw [up2_s]; omega) dX9_takes_136
                  · skip
                    refine vv_aload_n X 0 rfl rfl dX9_takes_74 ?_
                    refine vv_getr (Nf := 20) (ref := (TX9 7).1) X (by decide) sh_105 rfl 7 (by decide) u_X9_takes_9 k_X9_takes_25 rfl rfl dX9_takes_75 ?_
                    refine vv_iload X 4 rfl dX9_takes_78 ?_
                    refine vv_aload_n X 0 rfl rfl dX9_takes_80 ?_
                    refine vv_getr (Nf := 20) (ref := (TX9 7).1) X (by decide) sh_105 rfl 7 (by decide) u_X9_takes_9 k_X9_takes_25 rfl rfl dX9_takes_81 ?_
                    refine vv_iload X 4 rfl dX9_takes_84 ?_
                    refine vv_iconst (n := 1) X dX9_takes_86 ?_
                    refine vv_isub X dX9_takes_87 ?_
                    refine vv_iald (z := (M_68 111 (Int.toNat (a4 - 1)))) X (by decide) sh_111 (by decide) (by omega) (rfl) dX9_takes_88 ?_
                    refine vv_iast (ix := (Int.toNat a4)) X (by decide) sh_111 (by decide) (by omega) (rfl) dX9_takes_89 ?_
                    refine vv_aload_n X 0 rfl rfl dX9_takes_90 ?_
                    refine vv_getr (Nf := 20) (ref := (TX9 8).1) X (by decide) sh_105 rfl 8 (by decide) u_X9_takes_9 k_X9_takes_28 rfl rfl dX9_takes_91 ?_
                    refine vv_iload X 4 rfl dX9_takes_94 ?_
                    refine vv_aload_n X 0 rfl rfl dX9_takes_96 ?_
                    refine vv_getr (Nf := 20) (ref := (TX9 8).1) X (by decide) sh_105 rfl 8 (by decide) u_X9_takes_9 k_X9_takes_28 rfl rfl dX9_takes_97 ?_
                    refine vv_iload X 4 rfl dX9_takes_100 ?_
                    refine vv_iconst (n := 1) X dX9_takes_102 ?_
                    refine vv_isub X dX9_takes_103 ?_
                    refine vv_iald (z := (M_68 112 (Int.toNat (a4 - 1)))) X (by decide) sh_112 (by decide) (by omega) (rfl) dX9_takes_104 ?_
                    refine vv_iast (ix := (Int.toNat a4)) X (by decide) sh_112 (by decide) (by omega) (rfl) dX9_takes_105 ?_
                    refine vv_iinc (lv' := [(4, .int (zI (a4 + (-1)))), (0, .ref (ad 105)), (1, .int (zI v)), (2, .int (zI x)), (3, .int (zI a3))]) X 4 rfl (by decide) rfl dX9_takes_106 ?_
                    refine vv_goto (tgt := 68) X (by decide) dX9_takes_109 ?_
                    refine vv_sub (lv' := [(0, .ref (ad 105)), (1, .int (zI v)), (2, .int (zI x)), (3, .int (zI a3)), (4, .int (zI (a4 + (-1))))]) [1, 2, 3, 4, 0] rfl ?_
                    exact ih_68 (up2 (up2 M_68 111 (Int.toNat a4) (M_68 111 (Int.toNat (a4 - 1)))) 112 (Int.toNat a4) (M_68 112 (Int.toNat (a4 - 1)))) (a4 + (-1)) (by omega) (eqx_up _ _ (eqx_up _ _ kE (by decide)) (by decide)) (fun j => by
                      have kjj := kj j
                      by_cases q : j = a4.toNat
                      · rw [if_neg (by omega), if_neg (by omega), q, show a4.toNat - 1 = (a4 - 1).toNat by omega]
                        exact ⟨(uz_s (M_68 111) _ _).trans kja.1, (uz_s (M_68 112) _ _).trans kja.2⟩
                      · have e : ((j : Int) ≤ a4 + -1 ∨ M 105 9 < (j : Int)) ↔ ((j : Int) ≤ a4 ∨ M 105 9 < (j : Int)) := by omega
                        simp only [e]
                        exact ⟨(uz_n (M_68 111) _ q).trans kjj.1, (uz_n (M_68 112) _ q).trans kjj.2⟩) (by omega)
              refine vv_sub (lv' := [(0, .ref (ad 105)), (1, .int (zI v)), (2, .int (zI x)), (3, .int (zI a3)), (4, .int (zI (M 105 9)))]) [1, 2, 3, 4, 0] rfl ?_
              exact loop_68 _ M (M 105 9) (by omega) (eqx_rf _ _) (fun j => by rw [if_pos (by omega), if_pos (by omega)]; exact ⟨rfl, rfl⟩) (Nat.lt_succ_self _)
          · skip
            refine vv_aload_n X 0 rfl rfl dX9_takes_31 ?_
            refine vv_getr (Nf := 20) (ref := (TX9 8).1) X (by decide) sh_105 rfl 8 (by decide) u_X9_takes_9 k_X9_takes_28 rfl rfl dX9_takes_32 ?_
            refine vv_iload_n X 3 rfl rfl dX9_takes_35 ?_
            refine vv_iconst (n := 1) X dX9_takes_36 ?_
            refine vv_isub X dX9_takes_37 ?_
            refine vv_iald (z := (M 112 (Int.toNat (a3 - 1)))) X (by decide) sh_112 (by decide) (by omega) (rfl) dX9_takes_38 ?_
            refine vv_iload_n X 2 rfl rfl dX9_takes_39 ?_
            refine vv_icmp_ne (tgt := 58) X (by omega) (by omega) dX9_takes_40 (by decide) (fun c_40 => ?_) (fun c_40 => ?_)
            · skip
              refine vv_iload_n X 1 rfl rfl dX9_takes_58 ?_
              refine vv_if_le (tgt := 136) X (by omega) dX9_takes_59 (by decide) (fun c_59 => ?_) (fun c_59 => ?_)
              · skip
                exact vv_vret X hm (⟨eqx_rf _ _, fun k _ => rfl, by rw [show v = 0 by omega, fadd_0]; exact hS, by omega⟩) dX9_takes_136
              · skip
                refine vv_aload_n X 0 rfl rfl dX9_takes_62 ?_
                refine vv_geti (Nf := 20) (ref := (TX9 9).1) (z := (M 105 9)) X (by decide) sh_105 rfl 9 (by decide) u_X9_takes_9 k_X9_takes_72 rfl rfl (rfl) dX9_takes_63 ?_
                refine vv_istore (lv' := [(4, .int (zI (M 105 9))), (0, .ref (ad 105)), (1, .int (zI v)), (2, .int (zI x)), (3, .int (zI a3))]) X (by decide) rfl dX9_takes_66 ?_
                have loop_68 : ∀ (n : Nat) (M_68 : Mem) (a4 : Int), a3 ≤ a4 ∧ a4 ≤ M 105 9 → eqx M M_68 [111, 112] → (∀ j : Nat, M_68 111 j = (if (j : Int) ≤ a4 ∨ M 105 9 < (j : Int) then M 111 j else M 111 (j - 1)) ∧ M_68 112 j = (if (j : Int) ≤ a4 ∨ M 105 9 < (j : Int) then M 112 j else M 112 (j - 1))) → (a4 - a3).toNat < n → VV p l e { frames := 0, cells := 0, slots := 0, locals := 0 } s m args below meth c 5 D ad cA (Afr ad s.heap.size) 0 0 (QV below args s D ad cA (fun M1 => eqx M M1 [105, 111, 112] ∧ (∀ k : Nat, k ≠ 9 → M1 105 k = M 105 k) ∧ SplitOf (fadd F x v) (M1 105 9) (M1 111) (M1 112) ∧ M1 105 9 ≤ M 105 9 + 1)) M_68 68 [(0, .ref (ad 105)), (1, .int (zI v)), (2, .int (zI x)), (3, .int (zI a3)), (4, .int (zI a4))] [] := by
                  intro n
                  induction n with
                  | zero => intro M_68 a4 k4 kE kj hn; exact absurd hn (Nat.not_lt_zero _)
                  | succ n ih_68 =>
                    intro M_68 a4 k4 kE kj hn
                    have e_68_105 : M_68 105 = M 105 := kE 105 (by decide)
                    have kja := kj (a4 - 1).toNat
                    rw [if_pos (by omega), if_pos (by omega)] at kja
                    refine vv_iload X 4 rfl dX9_takes_68 ?_
                    refine vv_iload_n X 3 rfl rfl dX9_takes_70 ?_
                    refine vv_icmp_le (tgt := 112) X (by omega) (by omega) dX9_takes_71 (by decide) (fun c_71 => ?_) (fun c_71 => ?_)
                    · skip
                      refine vv_aload_n X 0 rfl rfl dX9_takes_112 ?_
                      refine vv_getr (Nf := 20) (ref := (TX9 7).1) X (by decide) sh_105 rfl 7 (by decide) u_X9_takes_9 k_X9_takes_25 rfl rfl dX9_takes_113 ?_
                      refine vv_iload_n X 3 rfl rfl dX9_takes_116 ?_
                      refine vv_iload_n X 1 rfl rfl dX9_takes_117 ?_
                      refine vv_iast (ix := (Int.toNat a3)) X (by decide) sh_111 (by decide) (by omega) (rfl) dX9_takes_118 ?_
                      refine vv_aload_n X 0 rfl rfl dX9_takes_119 ?_
                      refine vv_getr (Nf := 20) (ref := (TX9 8).1) X (by decide) sh_105 rfl 8 (by decide) u_X9_takes_9 k_X9_takes_28 rfl rfl dX9_takes_120 ?_
                      refine vv_iload_n X 3 rfl rfl dX9_takes_123 ?_
                      refine vv_iload_n X 2 rfl rfl dX9_takes_124 ?_
                      refine vv_iast (ix := (Int.toNat a3)) X (by decide) sh_112 (by decide) (by omega) (rfl) dX9_takes_125 ?_
                      refine vv_aload_n X 0 rfl rfl dX9_takes_126 ?_
                      refine vv_dup X rfl dX9_takes_127 ?_
                      refine vv_geti (Nf := 20) (ref := (TX9 9).1) (z := (M 105 9)) X (by decide) sh_105 rfl 9 (by decide) u_X9_takes_9 k_X9_takes_72 rfl rfl (show M_68 105 9 = M 105 9 from by rw [e_68_105]) dX9_takes_128 ?_
                      refine vv_iconst (n := 1) X dX9_takes_131 ?_
                      refine vv_iadd X dX9_takes_132 ?_
                      refine vv_puti (Nf := 20) (ref := (TX9 9).1) X (by decide) sh_105 rfl 9 (by decide) u_X9_takes_9 k_X9_takes_72 rfl tyX9_ok nmX9 rfl (by decide +kernel) rfl rfl dX9_takes_133 ?_
                      exact vv_vret X hm (by
                        refine ⟨eqx_up _ _ (eqx_up _ _ (eqx_up _ _ (eqx_mono kE (by decide)) (by decide)) (by decide)) (by decide), fun k hk => ?_, ?_, ?_⟩
                        · rw [up2_m _ _ _ hk, up2_n _ _ _ (by decide), up2_n _ _ _ (by decide), e_68_105]
                        · have hx1 : x ≤ 100 := by omega
                          have hlt : ∀ j : Nat, j < a3.toNat → M 112 j < x := fun j hj => by
                            have h1 : 0 < a3 := by omega
                            have h2 := hle h1
                            rcases (show j = (a3 - 1).toNat ∨ (j : Int) < a3 - 1 by omega) with q | q
                            · rw [q]; omega
                            · have := hlo j q; omega
                          rw [show up2 (up2 (up2 M_68 111 a3.toNat v) 112 a3.toNat x) 105 9 (M 105 9 + 1) 105 9 = M 105 9 + 1 from up2_s _ _ _ _]
                          refine SplitOf_ins hS hF ⟨hx.1, hx1⟩ (by omega) (i := a3.toNat) (by omega) hlt (fun j q1 q2 => hg j (by omega) q2) (fun j hj => ?_)
                          have kjj := kj j
                          show uz (M_68 111) a3.toNat v j = _ ∧ uz (M_68 112) a3.toNat x j = _
                          unfold uz
                          by_cases q : j < a3.toNat
                          · have hne : ¬ j = a3.toNat := by omega
                            simp only [if_neg hne, if_pos q]
                            rw [kjj.1, kjj.2, if_pos (by omega), if_pos (by omega)]
                            exact ⟨rfl, rfl⟩
                          · rw [if_neg q, if_neg q]
                            by_cases z : j = a3.toNat
                            · simp only [if_pos z]
                              exact ⟨trivial, trivial⟩
                            · simp only [if_neg z]
                              rw [kjj.1, kjj.2, if_neg (by omega), if_neg (by omega)]
                              exact ⟨rfl, rfl⟩
                        · rw [up2_s]; omega) dX9_takes_136
                    · skip
                      refine vv_aload_n X 0 rfl rfl dX9_takes_74 ?_
                      refine vv_getr (Nf := 20) (ref := (TX9 7).1) X (by decide) sh_105 rfl 7 (by decide) u_X9_takes_9 k_X9_takes_25 rfl rfl dX9_takes_75 ?_
                      refine vv_iload X 4 rfl dX9_takes_78 ?_
                      refine vv_aload_n X 0 rfl rfl dX9_takes_80 ?_
                      refine vv_getr (Nf := 20) (ref := (TX9 7).1) X (by decide) sh_105 rfl 7 (by decide) u_X9_takes_9 k_X9_takes_25 rfl rfl dX9_takes_81 ?_
                      refine vv_iload X 4 rfl dX9_takes_84 ?_
                      refine vv_iconst (n := 1) X dX9_takes_86 ?_
                      refine vv_isub X dX9_takes_87 ?_
                      refine vv_iald (z := (M_68 111 (Int.toNat (a4 - 1)))) X (by decide) sh_111 (by decide) (by omega) (rfl) dX9_takes_88 ?_
                      refine vv_iast (ix := (Int.toNat a4)) X (by decide) sh_111 (by decide) (by omega) (rfl) dX9_takes_89 ?_
                      refine vv_aload_n X 0 rfl rfl dX9_takes_90 ?_
                      refine vv_getr (Nf := 20) (ref := (TX9 8).1) X (by decide) sh_105 rfl 8 (by decide) u_X9_takes_9 k_X9_takes_28 rfl rfl dX9_takes_91 ?_
                      refine vv_iload X 4 rfl dX9_takes_94 ?_
                      refine vv_aload_n X 0 rfl rfl dX9_takes_96 ?_
                      refine vv_getr (Nf := 20) (ref := (TX9 8).1) X (by decide) sh_105 rfl 8 (by decide) u_X9_takes_9 k_X9_takes_28 rfl rfl dX9_takes_97 ?_
                      refine vv_iload X 4 rfl dX9_takes_100 ?_
                      refine vv_iconst (n := 1) X dX9_takes_102 ?_
                      refine vv_isub X dX9_takes_103 ?_
                      refine vv_iald (z := (M_68 112 (Int.toNat (a4 - 1)))) X (by decide) sh_112 (by decide) (by omega) (rfl) dX9_takes_104 ?_
                      refine vv_iast (ix := (Int.toNat a4)) X (by decide) sh_112 (by decide) (by omega) (rfl) dX9_takes_105 ?_
                      refine vv_iinc (lv' := [(4, .int (zI (a4 + (-1)))), (0, .ref (ad 105)), (1, .int (zI v)), (2, .int (zI x)), (3, .int (zI a3))]) X 4 rfl (by decide) rfl dX9_takes_106 ?_
                      refine vv_goto (tgt := 68) X (by decide) dX9_takes_109 ?_
                      refine vv_sub (lv' := [(0, .ref (ad 105)), (1, .int (zI v)), (2, .int (zI x)), (3, .int (zI a3)), (4, .int (zI (a4 + (-1))))]) [1, 2, 3, 4, 0] rfl ?_
                      exact ih_68 (up2 (up2 M_68 111 (Int.toNat a4) (M_68 111 (Int.toNat (a4 - 1)))) 112 (Int.toNat a4) (M_68 112 (Int.toNat (a4 - 1)))) (a4 + (-1)) (by omega) (eqx_up _ _ (eqx_up _ _ kE (by decide)) (by decide)) (fun j => by
                        have kjj := kj j
                        by_cases q : j = a4.toNat
                        · rw [if_neg (by omega), if_neg (by omega), q, show a4.toNat - 1 = (a4 - 1).toNat by omega]
                          exact ⟨(uz_s (M_68 111) _ _).trans kja.1, (uz_s (M_68 112) _ _).trans kja.2⟩
                        · have e : ((j : Int) ≤ a4 + -1 ∨ M 105 9 < (j : Int)) ↔ ((j : Int) ≤ a4 ∨ M 105 9 < (j : Int)) := by omega
                          simp only [e]
                          exact ⟨(uz_n (M_68 111) _ q).trans kjj.1, (uz_n (M_68 112) _ q).trans kjj.2⟩) (by omega)
                refine vv_sub (lv' := [(0, .ref (ad 105)), (1, .int (zI v)), (2, .int (zI x)), (3, .int (zI a3)), (4, .int (zI (M 105 9)))]) [1, 2, 3, 4, 0] rfl ?_
                exact loop_68 _ M (M 105 9) (by omega) (eqx_rf _ _) (fun j => by rw [if_pos (by omega), if_pos (by omega)]; exact ⟨rfl, rfl⟩) (Nat.lt_succ_self _)
            · skip
              refine vv_aload_n X 0 rfl rfl dX9_takes_43 ?_
              refine vv_getr (Nf := 20) (ref := (TX9 7).1) X (by decide) sh_105 rfl 7 (by decide) u_X9_takes_9 k_X9_takes_25 rfl rfl dX9_takes_44 ?_
              refine vv_iload_n X 3 rfl rfl dX9_takes_47 ?_
              refine vv_iconst (n := 1) X dX9_takes_48 ?_
              refine vv_isub X dX9_takes_49 ?_
              refine vv_dup2 X rfl rfl dX9_takes_50 ?_
              refine vv_iald (z := (M 111 (Int.toNat (a3 - 1)))) X (by decide) sh_111 (by decide) (by omega) (rfl) dX9_takes_51 ?_
              refine vv_iload_n X 1 rfl rfl dX9_takes_52 ?_
              refine vv_iadd X dX9_takes_53 ?_
              refine vv_iast (ix := (Int.toNat (a3 - 1))) X (by decide) sh_111 (by decide) (by omega) (rfl) dX9_takes_54 ?_
              refine vv_goto (tgt := 136) X (by decide) dX9_takes_55 ?_
              exact vv_vret X hm (⟨eqx_mono (eqx_up _ _ (eqx_rf _ [111]) (by decide)) (by decide), fun k _ => rfl, show SplitOf (fadd F x v) (M 105 9) (uz (M 111) (a3 - 1).toNat (M 111 (a3 - 1).toNat + v)) (M 112) from SplitOf_more hS hx.1 hv (i := (a3 - 1).toNat) (by omega) (by omega) (fun j hj => ⟨by
                by_cases q : j = (a3 - 1).toNat
                · rw [if_pos q, q]
                  exact uz_s _ _ _
                · rw [if_neg q]
                  exact uz_n _ _ q, rfl⟩), by show M 105 9 ≤ M 105 9 + 1; omega⟩) dX9_takes_136
        · skip
          refine vv_iinc (lv' := [(3, .int (zI (a3 + (-1)))), (0, .ref (ad 105)), (1, .int (zI v)), (2, .int (zI x))]) X 3 rfl (by decide) rfl dX9_takes_21 ?_
          refine vv_goto (tgt := 5) X (by decide) dX9_takes_24 ?_
          refine vv_sub (lv' := [(0, .ref (ad 105)), (1, .int (zI v)), (2, .int (zI x)), (3, .int (zI (a3 + (-1))))]) [1, 2, 3, 0] rfl ?_
          exact ih_5 (a3 + (-1)) (by omega) (fun i q1 q2 => by
            rcases (show a3 ≤ (i : Int) ∨ i = (a3 - 1).toNat by omega) with q | q
            · exact hg i q q2
            · rw [q]; omega) (by omega)
  refine vv_sub (lv' := [(0, .ref (ad 105)), (1, .int (zI v)), (2, .int (zI x)), (3, .int (zI (M 105 9)))]) [1, 2, 3, 0] rfl ?_
  exact loop_5 _ (M 105 9) (by omega) (fun i q1 q2 => absurd q1 (by omega)) (Nat.lt_succ_self _)
theorem u_X9_areWell_9 : ∀ w ∈ u_ws RX9 TX9 20, w ∈ wsX9_areWell := by decide +kernel
theorem k_X9_areWell_25 : Cond.fieldLink yX9_areWell.cls 25 (TX9 7).1 (TX9 7).2.1 (TX9 7).2.2.1 ∈ wsX9_areWell := by decide +kernel
theorem k_X9_areWell_72 : Cond.fieldLink yX9_areWell.cls 72 (TX9 9).1 (TX9 9).2.1 (TX9 9).2.2.1 ∈ wsX9_areWell := by decide +kernel
set_option maxRecDepth 100000 in
set_option maxHeartbeats 4000000 in
theorem c_X9_areWell (l : Launch) (D : va_G) {ad : Nat → Nat} (cA : Nat → ClassId) (had : adok ad) (M : Mem) (F : Nat → Int) (hF : ∀ j, 0 ≤ F j) (hFb : ∀ j, F j ≤ 1073741824) (hS : SplitOf F (M 105 9) (M 111) (M 112)) (hm : 1 ≤ M 105 9 ∧ M 105 9 ≤ 8) : CtI l yX9_areWell wsX9_areWell 1 24 D ad cA [.ref (ad 105)] M (fun z M1 => ((okF (red F) ∧ z = 1) ∨ (¬ okF (red F) ∧ z = 0)) ∧ eqx M M1 [111] ∧ SplitOf (red F) (M1 105 9) (M1 111) (M1 112)) := by
  refine CtI.of (cc := cX9_areWell) (maxL := 4) (ret := (some .boolean)) had (by decide) rfl (Nat.le_of_ble_eq_true rfl) ?_
  intro p e s m args below meth c X hm
  show VV p l e { frames := 1, cells := 0, slots := 0, locals := 24 } s m args below meth c 4 D ad cA (Afr ad s.heap.size) 0 0 (QI below args s D ad cA (fun z M1 => ((okF (red F) ∧ z = 1) ∨ (¬ okF (red F) ∧ z = 0)) ∧ eqx M M1 [111] ∧ SplitOf (red F) (M1 105 9) (M1 111) (M1 112))) M 0 [(0, .ref (ad 105))] []
  have hpr : ∀ i : Nat, (i : Int) < M 105 9 → 0 < M 111 i ∧ M 111 i ≤ 1073741824 := fun i q => ⟨(hS.2 i q).2.2.1, by rw [(hS.2 i q).2.1]; exact hFb _⟩
  refine vv_iconst (n := 0) X dX9_areWell_0 ?_
  refine vv_istore_n (lv' := [(1, .int (zI 0)), (0, .ref (ad 105))]) X rfl (by decide) rfl dX9_areWell_1 ?_
  refine vv_iconst (n := 0) X dX9_areWell_2 ?_
  refine vv_istore_n (lv' := [(2, .int (zI 0)), (1, .int (zI 0)), (0, .ref (ad 105))]) X rfl (by decide) rfl dX9_areWell_3 ?_
  have loop_4 : ∀ (n : Nat)  (k : Nat) (a1 : Int) (a2 : Int), a2 = (k : Int) → (k : Int) ≤ M 105 9 → a1 = gls (M 111) k → (M 105 9 - a2).toNat < n → VV p l e { frames := 1, cells := 0, slots := 0, locals := 24 } s m args below meth c 4 D ad cA (Afr ad s.heap.size) 0 0 (QI below args s D ad cA (fun z M1 => ((okF (red F) ∧ z = 1) ∨ (¬ okF (red F) ∧ z = 0)) ∧ eqx M M1 [111] ∧ SplitOf (red F) (M1 105 9) (M1 111) (M1 112))) M 4 [(0, .ref (ad 105)), (1, .int (zI a1)), (2, .int (zI a2))] [] := by
    intro n
    induction n with
    | zero => intro k a1 a2 h2 hk h1 hn; exact absurd hn (Nat.not_lt_zero _)
    | succ n ih_4 =>
      intro k a1 a2 h2 hk h1 hn
      have h6 : a2.toNat = k := by omega
      have hb1 := gls_nn (M 111) k
      have hb2 := gls_b (w := M 111) (B := 1073741824) (by decide) (n := k) (fun j hj => hpr j (by omega))
      have hpk : (k : Int) < M 105 9 → 0 < M 111 k ∧ M 111 k ≤ 1073741824 := hpr k
      refine vv_iload_n X 2 rfl rfl dX9_areWell_4 ?_
      refine vv_aload_n X 0 rfl rfl dX9_areWell_5 ?_
      refine vv_geti (Nf := 20) (ref := (TX9 9).1) (z := (M 105 9)) X (by decide) sh_105 rfl 9 (by decide) u_X9_areWell_9 k_X9_areWell_72 rfl rfl (rfl) dX9_areWell_6 ?_
      refine vv_icmp_ge (tgt := 29) X (by omega) (by omega) dX9_areWell_9 (by decide) (fun c_9 => ?_) (fun c_9 => ?_)
      · skip
        refine vv_aload_n X 0 rfl rfl dX9_areWell_29 ?_
        have ek : (M 105 9).toNat = k := by omega
        have h1p : 0 < a1 := by
          have hd : a1 ∣ M 111 0 := by rw [h1]; exact gls_dvd (by omega)
          have hp0 := hpr 0 (by omega)
          rcases (show a1 = 0 ∨ 0 < a1 by omega) with q | q
          · rw [q] at hd
            have := Int.zero_dvd.mp hd
            omega
          · exact q
        refine vv_geti (Nf := 20) (ref := (TX9 9).1) (z := (M 105 9)) X (by decide) sh_105 rfl 9 (by decide) u_X9_areWell_9 k_X9_areWell_72 rfl rfl (rfl) dX9_areWell_30 ?_
        refine vv_bipush (n := 6) X (by decide) dX9_areWell_33 ?_
        refine vv_icmp_gt (tgt := 42) X (by omega) (by omega) dX9_areWell_35 (by decide) (fun c_35 => ?_) (fun c_35 => ?_)
        · skip
          refine vv_iconst (n := 0) X dX9_areWell_42 ?_
          refine vv_istore_n (lv' := [(2, .int (zI 0)), (0, .ref (ad 105)), (1, .int (zI a1))]) X rfl (by decide) rfl dX9_areWell_43 ?_
          refine vv_iconst (n := 0) X dX9_areWell_44 ?_
          refine vv_istore_n (lv' := [(3, .int (zI 0)), (2, .int (zI 0)), (0, .ref (ad 105)), (1, .int (zI a1))]) X rfl (by decide) rfl dX9_areWell_45 ?_
          have loop_46 : ∀ (n : Nat) (M_46 : Mem) (k2 : Nat) (b2 : Int) (b3 : Int), b3 = (k2 : Int) → (k2 : Int) ≤ M 105 9 → (b2 = 0 ∨ b2 = 1) → (b2 = 1 ↔ M 105 9 ≤ 6 ∧ ∀ j : Nat, j < k2 → (M 111 j).tdiv a1 ≤ 999) → eqx M M_46 [111] → (∀ j : Nat, M_46 111 j = if j < k2 then (M 111 j).tdiv a1 else M 111 j) → (M 105 9 - b3).toNat < n → VV p l e { frames := 1, cells := 0, slots := 0, locals := 24 } s m args below meth c 4 D ad cA (Afr ad s.heap.size) 0 0 (QI below args s D ad cA (fun z M1 => ((okF (red F) ∧ z = 1) ∨ (¬ okF (red F) ∧ z = 0)) ∧ eqx M M1 [111] ∧ SplitOf (red F) (M1 105 9) (M1 111) (M1 112))) M_46 46 [(0, .ref (ad 105)), (1, .int (zI a1)), (2, .int (zI b2)), (3, .int (zI b3))] [] := by
            intro n
            induction n with
            | zero => intro M_46 k2 b2 b3 g3 gk g2 gb gE gj hn; exact absurd hn (Nat.not_lt_zero _)
            | succ n ih_46 =>
              intro M_46 k2 b2 b3 g3 gk g2 gb gE gj hn
              have e_46_105 : M_46 105 = M 105 := gE 105 (by decide)
              have e_46_112 : M_46 112 = M 112 := gE 112 (by decide)
              have g6 : b3.toNat = k2 := by omega
              have gz : M_46 111 b3.toNat = M 111 k2 := by rw [g6, gj, if_neg (by omega)]
              have gpk : (k2 : Int) < M 105 9 → 0 < M 111 k2 ∧ M 111 k2 ≤ 1073741824 := hpr k2
              have gtd : (k2 : Int) < M 105 9 → 0 ≤ (M 111 k2).tdiv a1 ∧ (M 111 k2).tdiv a1 ≤ 1073741824 := fun q => tdiv_b (by have := gpk q; omega) (by omega)
              have gnx : (b2 = 1 ∧ (M 111 k2).tdiv a1 ≤ 999) ↔ (M 105 9 ≤ 6 ∧ ∀ j : Nat, j < k2 + 1 → (M 111 j).tdiv a1 ≤ 999) := by
                rw [gb]
                constructor
                · rintro ⟨⟨q1, q2⟩, q3⟩
                  refine ⟨q1, fun j hj => ?_⟩
                  rcases (show j < k2 ∨ j = k2 by omega) with q | q
                  · exact q2 j q
                  · rw [q]; exact q3
                · rintro ⟨q1, q2⟩
                  exact ⟨⟨q1, fun j hj => q2 j (by omega)⟩, q2 k2 (by omega)⟩
              refine vv_iload_n X 3 rfl rfl dX9_areWell_46 ?_
              refine vv_aload_n X 0 rfl rfl dX9_areWell_47 ?_
              refine vv_geti (Nf := 20) (ref := (TX9 9).1) (z := (M 105 9)) X (by decide) sh_105 rfl 9 (by decide) u_X9_areWell_9 k_X9_areWell_72 rfl rfl (show M_46 105 9 = M 105 9 from by rw [e_46_105]) dX9_areWell_48 ?_
              refine vv_icmp_ge (tgt := 92) X (by omega) (by omega) dX9_areWell_51 (by decide) (fun c_51 => ?_) (fun c_51 => ?_)
              · skip
                refine vv_iload_n X 2 rfl rfl dX9_areWell_92 ?_
                exact vv_zret X hm (g2) (by
                  have e2 : (k2 : Int) = M 105 9 := by omega
                  have hR : SplitOf (red F) (M 105 9) (M_46 111) (M 112) := SplitOf_red hS hF (fun j hj => ⟨by rw [gj j, if_pos (by omega), h1, ek], rfl⟩)
                  have ho := okF_list hR (red_nn hF)
                  have hb : okF (red F) ↔ b2 = 1 := by
                    rw [ho, gb]
                    constructor
                    · rintro ⟨q1, q2⟩
                      refine ⟨q1, fun j hj => ?_⟩
                      have := q2 j (by omega)
                      rw [gj j, if_pos hj] at this
                      exact this
                    · rintro ⟨q1, q2⟩
                      refine ⟨q1, fun j hj => ?_⟩
                      rw [gj j, if_pos (by omega)]
                      exact q2 j (by omega)
                  refine ⟨?_, gE, by rw [e_46_105, e_46_112]; exact hR⟩
                  rcases g2 with q | q
                  · exact Or.inr ⟨fun w => by have := hb.mp w; omega, q⟩
                  · exact Or.inl ⟨hb.mpr q, q⟩) dX9_areWell_93
              · skip
                refine vv_aload_n X 0 rfl rfl dX9_areWell_54 ?_
                refine vv_getr (Nf := 20) (ref := (TX9 7).1) X (by decide) sh_105 rfl 7 (by decide) u_X9_areWell_9 k_X9_areWell_25 rfl rfl dX9_areWell_55 ?_
                refine vv_iload_n X 3 rfl rfl dX9_areWell_58 ?_
                refine vv_dup2 X rfl rfl dX9_areWell_59 ?_
                refine vv_iald (z := (M 111 k2)) X (by decide) sh_111 (by decide) (by omega) (gz) dX9_areWell_60 ?_
                refine vv_iload_n X 1 rfl rfl dX9_areWell_61 ?_
                refine vv_idiv X (by have := gpk (by omega); omega) (by have := gpk (by omega); omega) (by have := gpk (by omega); omega) dX9_areWell_62 ?_
                refine vv_iast (ix := (Int.toNat b3)) X (by decide) sh_111 (by decide) (by omega) (rfl) dX9_areWell_63 ?_
                refine vv_iload_n X 2 rfl rfl dX9_areWell_64 ?_
                refine vv_if_eq (tgt := 84) X (by omega) dX9_areWell_65 (by decide) (fun c_65 => ?_) (fun c_65 => ?_)
                · skip
                  refine vv_iconst (n := 0) X dX9_areWell_84 ?_
                  refine vv_istore_n (lv' := [(2, .int (zI 0)), (0, .ref (ad 105)), (1, .int (zI a1)), (3, .int (zI b3))]) X rfl (by decide) rfl dX9_areWell_85 ?_
                  refine vv_iinc (lv' := [(3, .int (zI (b3 + 1))), (2, .int (zI 0)), (0, .ref (ad 105)), (1, .int (zI a1))]) X 3 rfl (by decide) rfl dX9_areWell_86 ?_
                  refine vv_goto (tgt := 46) X (by decide) dX9_areWell_89 ?_
                  refine vv_sub (lv' := [(0, .ref (ad 105)), (1, .int (zI a1)), (2, .int (zI 0)), (3, .int (zI (b3 + 1)))]) [2, 3, 1, 0] rfl ?_
                  exact ih_46 (up2 M_46 111 (Int.toNat b3) (Int.tdiv (M 111 k2) a1)) (k2 + 1) 0 (b3 + 1) (by omega) (by omega) (by omega) (by rw [← gnx]; omega) (eqx_up _ _ gE (by decide)) (fun j => by
                    show uz (M_46 111) b3.toNat _ j = _
                    unfold uz
                    by_cases q : j = k2
                    · rw [if_pos (by omega), if_pos (by omega), q]
                    · rw [if_neg (by omega), gj j]
                      by_cases q2 : j < k2
                      · rw [if_pos q2, if_pos (by omega)]
                      · rw [if_neg q2, if_neg (by omega)]) (by omega)
                · skip
                  refine vv_aload_n X 0 rfl rfl dX9_areWell_68 ?_
                  refine vv_getr (Nf := 20) (ref := (TX9 7).1) X (by decide) sh_105 rfl 7 (by decide) u_X9_areWell_9 k_X9_areWell_25 rfl rfl dX9_areWell_69 ?_
                  refine vv_iload_n X 3 rfl rfl dX9_areWell_72 ?_
                  refine vv_iald (z := ((M 111 k2).tdiv a1)) X (by decide) sh_111 (by decide) (by omega) (by rw [up2_s]) dX9_areWell_73 ?_
                  refine vv_sipush (n := 999) X (by decide) dX9_areWell_74 ?_
                  refine vv_icmp_gt (tgt := 84) X (by have := gtd (by omega); omega) (by have := gtd (by omega); omega) dX9_areWell_77 (by decide) (fun c_77 => ?_) (fun c_77 => ?_)
                  · skip
                    refine vv_iconst (n := 0) X dX9_areWell_84 ?_
                    refine vv_istore_n (lv' := [(2, .int (zI 0)), (0, .ref (ad 105)), (1, .int (zI a1)), (3, .int (zI b3))]) X rfl (by decide) rfl dX9_areWell_85 ?_
                    refine vv_iinc (lv' := [(3, .int (zI (b3 + 1))), (2, .int (zI 0)), (0, .ref (ad 105)), (1, .int (zI a1))]) X 3 rfl (by decide) rfl dX9_areWell_86 ?_
                    refine vv_goto (tgt := 46) X (by decide) dX9_areWell_89 ?_
                    refine vv_sub (lv' := [(0, .ref (ad 105)), (1, .int (zI a1)), (2, .int (zI 0)), (3, .int (zI (b3 + 1)))]) [2, 3, 1, 0] rfl ?_
                    exact ih_46 (up2 M_46 111 (Int.toNat b3) (Int.tdiv (M 111 k2) a1)) (k2 + 1) 0 (b3 + 1) (by omega) (by omega) (by omega) (by rw [← gnx]; omega) (eqx_up _ _ gE (by decide)) (fun j => by
                      show uz (M_46 111) b3.toNat _ j = _
                      unfold uz
                      by_cases q : j = k2
                      · rw [if_pos (by omega), if_pos (by omega), q]
                      · rw [if_neg (by omega), gj j]
                        by_cases q2 : j < k2
                        · rw [if_pos q2, if_pos (by omega)]
                        · rw [if_neg q2, if_neg (by omega)]) (by omega)
                  · skip
                    refine vv_iconst (n := 1) X dX9_areWell_80 ?_
                    refine vv_goto (tgt := 85) X (by decide) dX9_areWell_81 ?_
                    refine vv_istore_n (lv' := [(2, .int (zI 1)), (0, .ref (ad 105)), (1, .int (zI a1)), (3, .int (zI b3))]) X rfl (by decide) rfl dX9_areWell_85 ?_
                    refine vv_iinc (lv' := [(3, .int (zI (b3 + 1))), (2, .int (zI 1)), (0, .ref (ad 105)), (1, .int (zI a1))]) X 3 rfl (by decide) rfl dX9_areWell_86 ?_
                    refine vv_goto (tgt := 46) X (by decide) dX9_areWell_89 ?_
                    refine vv_sub (lv' := [(0, .ref (ad 105)), (1, .int (zI a1)), (2, .int (zI 1)), (3, .int (zI (b3 + 1)))]) [2, 3, 1, 0] rfl ?_
                    exact ih_46 (up2 M_46 111 (Int.toNat b3) (Int.tdiv (M 111 k2) a1)) (k2 + 1) 1 (b3 + 1) (by omega) (by omega) (by omega) (by rw [← gnx]; omega) (eqx_up _ _ gE (by decide)) (fun j => by
                      show uz (M_46 111) b3.toNat _ j = _
                      unfold uz
                      by_cases q : j = k2
                      · rw [if_pos (by omega), if_pos (by omega), q]
                      · rw [if_neg (by omega), gj j]
                        by_cases q2 : j < k2
                        · rw [if_pos q2, if_pos (by omega)]
                        · rw [if_neg q2, if_neg (by omega)]) (by omega)
          refine vv_sub (lv' := [(0, .ref (ad 105)), (1, .int (zI a1)), (2, .int (zI 0)), (3, .int (zI 0))]) [2, 3, 1, 0] rfl ?_
          exact loop_46 _ M 0 0 0 rfl (by omega) (by omega) (⟨fun q => absurd q (by decide), fun q => absurd q.1 (by omega)⟩) (eqx_rf _ _) (fun j => by rw [if_neg (by omega)]) (Nat.lt_succ_self _)
        · skip
          refine vv_iconst (n := 1) X dX9_areWell_38 ?_
          refine vv_goto (tgt := 43) X (by decide) dX9_areWell_39 ?_
          refine vv_istore_n (lv' := [(2, .int (zI 1)), (0, .ref (ad 105)), (1, .int (zI a1))]) X rfl (by decide) rfl dX9_areWell_43 ?_
          refine vv_iconst (n := 0) X dX9_areWell_44 ?_
          refine vv_istore_n (lv' := [(3, .int (zI 0)), (2, .int (zI 1)), (0, .ref (ad 105)), (1, .int (zI a1))]) X rfl (by decide) rfl dX9_areWell_45 ?_
          have loop_46 : ∀ (n : Nat) (M_46 : Mem) (k2 : Nat) (b2 : Int) (b3 : Int), b3 = (k2 : Int) → (k2 : Int) ≤ M 105 9 → (b2 = 0 ∨ b2 = 1) → (b2 = 1 ↔ M 105 9 ≤ 6 ∧ ∀ j : Nat, j < k2 → (M 111 j).tdiv a1 ≤ 999) → eqx M M_46 [111] → (∀ j : Nat, M_46 111 j = if j < k2 then (M 111 j).tdiv a1 else M 111 j) → (M 105 9 - b3).toNat < n → VV p l e { frames := 1, cells := 0, slots := 0, locals := 24 } s m args below meth c 4 D ad cA (Afr ad s.heap.size) 0 0 (QI below args s D ad cA (fun z M1 => ((okF (red F) ∧ z = 1) ∨ (¬ okF (red F) ∧ z = 0)) ∧ eqx M M1 [111] ∧ SplitOf (red F) (M1 105 9) (M1 111) (M1 112))) M_46 46 [(0, .ref (ad 105)), (1, .int (zI a1)), (2, .int (zI b2)), (3, .int (zI b3))] [] := by
            intro n
            induction n with
            | zero => intro M_46 k2 b2 b3 g3 gk g2 gb gE gj hn; exact absurd hn (Nat.not_lt_zero _)
            | succ n ih_46 =>
              intro M_46 k2 b2 b3 g3 gk g2 gb gE gj hn
              have e_46_105 : M_46 105 = M 105 := gE 105 (by decide)
              have e_46_112 : M_46 112 = M 112 := gE 112 (by decide)
              have g6 : b3.toNat = k2 := by omega
              have gz : M_46 111 b3.toNat = M 111 k2 := by rw [g6, gj, if_neg (by omega)]
              have gpk : (k2 : Int) < M 105 9 → 0 < M 111 k2 ∧ M 111 k2 ≤ 1073741824 := hpr k2
              have gtd : (k2 : Int) < M 105 9 → 0 ≤ (M 111 k2).tdiv a1 ∧ (M 111 k2).tdiv a1 ≤ 1073741824 := fun q => tdiv_b (by have := gpk q; omega) (by omega)
              have gnx : (b2 = 1 ∧ (M 111 k2).tdiv a1 ≤ 999) ↔ (M 105 9 ≤ 6 ∧ ∀ j : Nat, j < k2 + 1 → (M 111 j).tdiv a1 ≤ 999) := by
                rw [gb]
                constructor
                · rintro ⟨⟨q1, q2⟩, q3⟩
                  refine ⟨q1, fun j hj => ?_⟩
                  rcases (show j < k2 ∨ j = k2 by omega) with q | q
                  · exact q2 j q
                  · rw [q]; exact q3
                · rintro ⟨q1, q2⟩
                  exact ⟨⟨q1, fun j hj => q2 j (by omega)⟩, q2 k2 (by omega)⟩
              refine vv_iload_n X 3 rfl rfl dX9_areWell_46 ?_
              refine vv_aload_n X 0 rfl rfl dX9_areWell_47 ?_
              refine vv_geti (Nf := 20) (ref := (TX9 9).1) (z := (M 105 9)) X (by decide) sh_105 rfl 9 (by decide) u_X9_areWell_9 k_X9_areWell_72 rfl rfl (show M_46 105 9 = M 105 9 from by rw [e_46_105]) dX9_areWell_48 ?_
              refine vv_icmp_ge (tgt := 92) X (by omega) (by omega) dX9_areWell_51 (by decide) (fun c_51 => ?_) (fun c_51 => ?_)
              · skip
                refine vv_iload_n X 2 rfl rfl dX9_areWell_92 ?_
                exact vv_zret X hm (g2) (by
                  have e2 : (k2 : Int) = M 105 9 := by omega
                  have hR : SplitOf (red F) (M 105 9) (M_46 111) (M 112) := SplitOf_red hS hF (fun j hj => ⟨by rw [gj j, if_pos (by omega), h1, ek], rfl⟩)
                  have ho := okF_list hR (red_nn hF)
                  have hb : okF (red F) ↔ b2 = 1 := by
                    rw [ho, gb]
                    constructor
                    · rintro ⟨q1, q2⟩
                      refine ⟨q1, fun j hj => ?_⟩
                      have := q2 j (by omega)
                      rw [gj j, if_pos hj] at this
                      exact this
                    · rintro ⟨q1, q2⟩
                      refine ⟨q1, fun j hj => ?_⟩
                      rw [gj j, if_pos (by omega)]
                      exact q2 j (by omega)
                  refine ⟨?_, gE, by rw [e_46_105, e_46_112]; exact hR⟩
                  rcases g2 with q | q
                  · exact Or.inr ⟨fun w => by have := hb.mp w; omega, q⟩
                  · exact Or.inl ⟨hb.mpr q, q⟩) dX9_areWell_93
              · skip
                refine vv_aload_n X 0 rfl rfl dX9_areWell_54 ?_
                refine vv_getr (Nf := 20) (ref := (TX9 7).1) X (by decide) sh_105 rfl 7 (by decide) u_X9_areWell_9 k_X9_areWell_25 rfl rfl dX9_areWell_55 ?_
                refine vv_iload_n X 3 rfl rfl dX9_areWell_58 ?_
                refine vv_dup2 X rfl rfl dX9_areWell_59 ?_
                refine vv_iald (z := (M 111 k2)) X (by decide) sh_111 (by decide) (by omega) (gz) dX9_areWell_60 ?_
                refine vv_iload_n X 1 rfl rfl dX9_areWell_61 ?_
                refine vv_idiv X (by have := gpk (by omega); omega) (by have := gpk (by omega); omega) (by have := gpk (by omega); omega) dX9_areWell_62 ?_
                refine vv_iast (ix := (Int.toNat b3)) X (by decide) sh_111 (by decide) (by omega) (rfl) dX9_areWell_63 ?_
                refine vv_iload_n X 2 rfl rfl dX9_areWell_64 ?_
                refine vv_if_eq (tgt := 84) X (by omega) dX9_areWell_65 (by decide) (fun c_65 => ?_) (fun c_65 => ?_)
                · skip
                  refine vv_iconst (n := 0) X dX9_areWell_84 ?_
                  refine vv_istore_n (lv' := [(2, .int (zI 0)), (0, .ref (ad 105)), (1, .int (zI a1)), (3, .int (zI b3))]) X rfl (by decide) rfl dX9_areWell_85 ?_
                  refine vv_iinc (lv' := [(3, .int (zI (b3 + 1))), (2, .int (zI 0)), (0, .ref (ad 105)), (1, .int (zI a1))]) X 3 rfl (by decide) rfl dX9_areWell_86 ?_
                  refine vv_goto (tgt := 46) X (by decide) dX9_areWell_89 ?_
                  refine vv_sub (lv' := [(0, .ref (ad 105)), (1, .int (zI a1)), (2, .int (zI 0)), (3, .int (zI (b3 + 1)))]) [2, 3, 1, 0] rfl ?_
                  exact ih_46 (up2 M_46 111 (Int.toNat b3) (Int.tdiv (M 111 k2) a1)) (k2 + 1) 0 (b3 + 1) (by omega) (by omega) (by omega) (by rw [← gnx]; omega) (eqx_up _ _ gE (by decide)) (fun j => by
                    show uz (M_46 111) b3.toNat _ j = _
                    unfold uz
                    by_cases q : j = k2
                    · rw [if_pos (by omega), if_pos (by omega), q]
                    · rw [if_neg (by omega), gj j]
                      by_cases q2 : j < k2
                      · rw [if_pos q2, if_pos (by omega)]
                      · rw [if_neg q2, if_neg (by omega)]) (by omega)
                · skip
                  refine vv_aload_n X 0 rfl rfl dX9_areWell_68 ?_
                  refine vv_getr (Nf := 20) (ref := (TX9 7).1) X (by decide) sh_105 rfl 7 (by decide) u_X9_areWell_9 k_X9_areWell_25 rfl rfl dX9_areWell_69 ?_
                  refine vv_iload_n X 3 rfl rfl dX9_areWell_72 ?_
                  refine vv_iald (z := ((M 111 k2).tdiv a1)) X (by decide) sh_111 (by decide) (by omega) (by rw [up2_s]) dX9_areWell_73 ?_
                  refine vv_sipush (n := 999) X (by decide) dX9_areWell_74 ?_
                  refine vv_icmp_gt (tgt := 84) X (by have := gtd (by omega); omega) (by have := gtd (by omega); omega) dX9_areWell_77 (by decide) (fun c_77 => ?_) (fun c_77 => ?_)
                  · skip
                    refine vv_iconst (n := 0) X dX9_areWell_84 ?_
                    refine vv_istore_n (lv' := [(2, .int (zI 0)), (0, .ref (ad 105)), (1, .int (zI a1)), (3, .int (zI b3))]) X rfl (by decide) rfl dX9_areWell_85 ?_
                    refine vv_iinc (lv' := [(3, .int (zI (b3 + 1))), (2, .int (zI 0)), (0, .ref (ad 105)), (1, .int (zI a1))]) X 3 rfl (by decide) rfl dX9_areWell_86 ?_
                    refine vv_goto (tgt := 46) X (by decide) dX9_areWell_89 ?_
                    refine vv_sub (lv' := [(0, .ref (ad 105)), (1, .int (zI a1)), (2, .int (zI 0)), (3, .int (zI (b3 + 1)))]) [2, 3, 1, 0] rfl ?_
                    exact ih_46 (up2 M_46 111 (Int.toNat b3) (Int.tdiv (M 111 k2) a1)) (k2 + 1) 0 (b3 + 1) (by omega) (by omega) (by omega) (by rw [← gnx]; omega) (eqx_up _ _ gE (by decide)) (fun j => by
                      show uz (M_46 111) b3.toNat _ j = _
                      unfold uz
                      by_cases q : j = k2
                      · rw [if_pos (by omega), if_pos (by omega), q]
                      · rw [if_neg (by omega), gj j]
                        by_cases q2 : j < k2
                        · rw [if_pos q2, if_pos (by omega)]
                        · rw [if_neg q2, if_neg (by omega)]) (by omega)
                  · skip
                    refine vv_iconst (n := 1) X dX9_areWell_80 ?_
                    refine vv_goto (tgt := 85) X (by decide) dX9_areWell_81 ?_
                    refine vv_istore_n (lv' := [(2, .int (zI 1)), (0, .ref (ad 105)), (1, .int (zI a1)), (3, .int (zI b3))]) X rfl (by decide) rfl dX9_areWell_85 ?_
                    refine vv_iinc (lv' := [(3, .int (zI (b3 + 1))), (2, .int (zI 1)), (0, .ref (ad 105)), (1, .int (zI a1))]) X 3 rfl (by decide) rfl dX9_areWell_86 ?_
                    refine vv_goto (tgt := 46) X (by decide) dX9_areWell_89 ?_
                    refine vv_sub (lv' := [(0, .ref (ad 105)), (1, .int (zI a1)), (2, .int (zI 1)), (3, .int (zI (b3 + 1)))]) [2, 3, 1, 0] rfl ?_
                    exact ih_46 (up2 M_46 111 (Int.toNat b3) (Int.tdiv (M 111 k2) a1)) (k2 + 1) 1 (b3 + 1) (by omega) (by omega) (by omega) (by rw [← gnx]; omega) (eqx_up _ _ gE (by decide)) (fun j => by
                      show uz (M_46 111) b3.toNat _ j = _
                      unfold uz
                      by_cases q : j = k2
                      · rw [if_pos (by omega), if_pos (by omega), q]
                      · rw [if_neg (by omega), gj j]
                        by_cases q2 : j < k2
                        · rw [if_pos q2, if_pos (by omega)]
                        · rw [if_neg q2, if_neg (by omega)]) (by omega)
          refine vv_sub (lv' := [(0, .ref (ad 105)), (1, .int (zI a1)), (2, .int (zI 1)), (3, .int (zI 0))]) [2, 3, 1, 0] rfl ?_
          exact loop_46 _ M 0 1 0 rfl (by omega) (by omega) (⟨fun _ => ⟨by omega, fun j hj => absurd hj (by omega)⟩, fun _ => rfl⟩) (eqx_rf _ _) (fun j => by rw [if_neg (by omega)]) (Nat.lt_succ_self _)
      · skip
        refine vv_iload_n X 1 rfl rfl dX9_areWell_12 ?_
        refine vv_aload_n X 0 rfl rfl dX9_areWell_13 ?_
        refine vv_getr (Nf := 20) (ref := (TX9 7).1) X (by decide) sh_105 rfl 7 (by decide) u_X9_areWell_9 k_X9_areWell_25 rfl rfl dX9_areWell_14 ?_
        refine vv_iload_n X 2 rfl rfl dX9_areWell_17 ?_
        refine vv_iald (z := (M 111 k)) X (by decide) sh_111 (by decide) (by omega) (by first | (rw [h6]; done) | (rw [h6]; exact (rfl))) dX9_areWell_18 ?_
        refine vv_callSI (As := [.int (zI a1), .int (zI (M 111 k))]) (st := []) X 2 (c_X9_divisor l D cA had M a1 (M 111 k) (by omega) (by omega)) gX9_areWell_X9_divisor rfl (by decide +kernel) ⟨by decide, by decide⟩ (Nat.le_of_ble_eq_true rfl) ⟨by decide, by decide⟩ rfl rfl dX9_areWell_19 (fun z19 Mc19 q_19 => ?_)
        obtain ⟨e_z19, g_z19⟩ := q_19
        have g_z19 := g_z19.symm
        subst g_z19
        refine vv_istore_n (lv' := [(1, .int (zI z19)), (0, .ref (ad 105)), (2, .int (zI a2))]) X rfl (by decide) rfl dX9_areWell_22 ?_
        refine vv_iinc (lv' := [(2, .int (zI (a2 + 1))), (1, .int (zI z19)), (0, .ref (ad 105))]) X 2 rfl (by decide) rfl dX9_areWell_23 ?_
        refine vv_goto (tgt := 4) X (by decide) dX9_areWell_26 ?_
        refine vv_sub (lv' := [(0, .ref (ad 105)), (1, .int (zI z19)), (2, .int (zI (a2 + 1)))]) [2, 1, 0] rfl ?_
        exact ih_4 (k + 1) z19 (a2 + 1) (by omega) (by omega) (by rw [e_z19, h1]; rfl) (by omega)
  refine vv_sub (lv' := [(0, .ref (ad 105)), (1, .int (zI 0)), (2, .int (zI 0))]) [2, 1, 0] rfl ?_
  exact loop_4 _ 0 0 0 rfl (by omega) rfl (Nat.lt_succ_self _)
theorem u_X9_gives_9 : ∀ w ∈ u_ws RX9 TX9 20, w ∈ wsX9_gives := by decide +kernel
theorem k_X9_gives_7 : Cond.fieldLink yX9_gives.cls 7 (TX9 0).1 (TX9 0).2.1 (TX9 0).2.2.1 ∈ wsX9_gives := by decide +kernel
theorem k_X9_gives_25 : Cond.fieldLink yX9_gives.cls 25 (TX9 7).1 (TX9 7).2.1 (TX9 7).2.2.1 ∈ wsX9_gives := by decide +kernel
theorem k_X9_gives_28 : Cond.fieldLink yX9_gives.cls 28 (TX9 8).1 (TX9 8).2.1 (TX9 8).2.2.1 ∈ wsX9_gives := by decide +kernel
theorem k_X9_gives_72 : Cond.fieldLink yX9_gives.cls 72 (TX9 9).1 (TX9 9).2.1 (TX9 9).2.2.1 ∈ wsX9_gives := by decide +kernel
set_option maxRecDepth 100000 in
set_option maxHeartbeats 4000000 in
theorem c_X9_gives (l : Launch) (D : va_G) {ad : Nat → Nat} (cA : Nat → ClassId) (had : adok ad) (M : Mem) (hm : 0 ≤ M 105 9 ∧ M 105 9 ≤ 8) : CtV l yX9_gives wsX9_gives 0 0 D ad cA [.ref (ad 105)] M (fun M1 => eqx M M1 [106] ∧ (∀ j : Nat, M1 106 j = if j = 2 then M 105 9 else if 23 ≤ j ∧ j < 23 + 6 then (if ((j - 23 : Nat) : Int) < M 105 9 then M 111 (j - 23) else 0) else if 29 ≤ j ∧ j < 29 + 6 then (if ((j - 29 : Nat) : Int) < M 105 9 then M 112 (j - 29) else 0) else M 106 j)) := by
  refine CtV.of (cc := cX9_gives) (maxL := 2) (ret := none) had (by decide) rfl (Nat.le_of_ble_eq_true rfl) ?_
  intro p e s m args below meth c X hm
  show VV p l e { frames := 0, cells := 0, slots := 0, locals := 0 } s m args below meth c 2 D ad cA (Afr ad s.heap.size) 0 0 (QV below args s D ad cA (fun M1 => eqx M M1 [106] ∧ (∀ j : Nat, M1 106 j = if j = 2 then M 105 9 else if 23 ≤ j ∧ j < 23 + 6 then (if ((j - 23 : Nat) : Int) < M 105 9 then M 111 (j - 23) else 0) else if 29 ≤ j ∧ j < 29 + 6 then (if ((j - 29 : Nat) : Int) < M 105 9 then M 112 (j - 29) else 0) else M 106 j))) M 0 [(0, .ref (ad 105))] []
  refine vv_aload_n X 0 rfl rfl dX9_gives_0 ?_
  refine vv_getr (Nf := 20) (ref := (TX9 0).1) X (by decide) sh_105 rfl 0 (by decide) u_X9_gives_9 k_X9_gives_7 rfl rfl dX9_gives_1 ?_
  refine vv_iconst (n := 2) X dX9_gives_4 ?_
  refine vv_aload_n X 0 rfl rfl dX9_gives_5 ?_
  refine vv_geti (Nf := 20) (ref := (TX9 9).1) (z := (M 105 9)) X (by decide) sh_105 rfl 9 (by decide) u_X9_gives_9 k_X9_gives_72 rfl rfl (rfl) dX9_gives_6 ?_
  refine vv_iast (ix := 2) X (by decide) sh_106 (by decide) (by omega) (rfl) dX9_gives_9 ?_
  refine vv_iconst (n := 0) X dX9_gives_10 ?_
  refine vv_istore_n (lv' := [(1, .int (zI 0)), (0, .ref (ad 105))]) X rfl (by decide) rfl dX9_gives_11 ?_
  have loop_12 : ∀ (n : Nat) (M_12 : Mem) (k : Nat) (a1 : Int), a1 = (k : Int) → k ≤ 6 → eqx M M_12 [106] → (∀ j : Nat, M_12 106 j = if j = 2 then M 105 9 else if 23 ≤ j ∧ j < 23 + k then (if ((j - 23 : Nat) : Int) < M 105 9 then M 111 (j - 23) else 0) else if 29 ≤ j ∧ j < 29 + k then (if ((j - 29 : Nat) : Int) < M 105 9 then M 112 (j - 29) else 0) else M 106 j) → 6 - k < n → VV p l e { frames := 0, cells := 0, slots := 0, locals := 0 } s m args below meth c 2 D ad cA (Afr ad s.heap.size) 0 0 (QV below args s D ad cA (fun M1 => eqx M M1 [106] ∧ (∀ j : Nat, M1 106 j = if j = 2 then M 105 9 else if 23 ≤ j ∧ j < 23 + 6 then (if ((j - 23 : Nat) : Int) < M 105 9 then M 111 (j - 23) else 0) else if 29 ≤ j ∧ j < 29 + 6 then (if ((j - 29 : Nat) : Int) < M 105 9 then M 112 (j - 29) else 0) else M 106 j))) M_12 12 [(0, .ref (ad 105)), (1, .int (zI a1))] [] := by
    intro n
    induction n with
    | zero => intro M_12 k a1 h1 hk hE hj hn; exact absurd hn (Nat.not_lt_zero _)
    | succ n ih_12 =>
      intro M_12 k a1 h1 hk hE hj hn
      have e_12_105 : M_12 105 = M 105 := hE 105 (by decide)
      have e_12_111 : M_12 111 = M 111 := hE 111 (by decide)
      have e_12_112 : M_12 112 = M 112 := hE 112 (by decide)
      have h6 : a1.toNat = k := by omega
      have h7 : (23 + a1).toNat = 23 + k := by omega
      have h8 : (29 + a1).toNat = 29 + k := by omega
      refine vv_iload_n X 1 rfl rfl dX9_gives_12 ?_
      refine vv_bipush (n := 6) X (by decide) dX9_gives_13 ?_
      refine vv_icmp_ge (tgt := 78) X (by omega) (by omega) dX9_gives_15 (by decide) (fun c_15 => ?_) (fun c_15 => ?_)
      · skip
        exact vv_vret X hm (⟨hE, by rw [show (6 : Nat) = k by omega]; exact hj⟩) dX9_gives_78
      · skip
        refine vv_aload_n X 0 rfl rfl dX9_gives_18 ?_
        refine vv_getr (Nf := 20) (ref := (TX9 0).1) X (by decide) sh_105 rfl 0 (by decide) u_X9_gives_9 k_X9_gives_7 rfl rfl dX9_gives_19 ?_
        refine vv_bipush (n := 23) X (by decide) dX9_gives_22 ?_
        refine vv_iload_n X 1 rfl rfl dX9_gives_24 ?_
        refine vv_iadd X dX9_gives_25 ?_
        refine vv_iload_n X 1 rfl rfl dX9_gives_26 ?_
        refine vv_aload_n X 0 rfl rfl dX9_gives_27 ?_
        refine vv_geti (Nf := 20) (ref := (TX9 9).1) (z := (M 105 9)) X (by decide) sh_105 rfl 9 (by decide) u_X9_gives_9 k_X9_gives_72 rfl rfl (show M_12 105 9 = M 105 9 from by rw [e_12_105]) dX9_gives_28 ?_
        refine vv_icmp_ge (tgt := 43) X (by omega) (by omega) dX9_gives_31 (by decide) (fun c_31 => ?_) (fun c_31 => ?_)
        · skip
          refine vv_iconst (n := 0) X dX9_gives_43 ?_
          refine vv_iast (ix := (23 + k)) X (by decide) sh_106 (by decide) (by omega) (h7) dX9_gives_44 ?_
          refine vv_aload_n X 0 rfl rfl dX9_gives_45 ?_
          refine vv_getr (Nf := 20) (ref := (TX9 0).1) X (by decide) sh_105 rfl 0 (by decide) u_X9_gives_9 k_X9_gives_7 rfl rfl dX9_gives_46 ?_
          refine vv_bipush (n := 29) X (by decide) dX9_gives_49 ?_
          refine vv_iload_n X 1 rfl rfl dX9_gives_51 ?_
          refine vv_iadd X dX9_gives_52 ?_
          refine vv_iload_n X 1 rfl rfl dX9_gives_53 ?_
          refine vv_aload_n X 0 rfl rfl dX9_gives_54 ?_
          refine vv_geti (Nf := 20) (ref := (TX9 9).1) (z := (M 105 9)) X (by decide) sh_105 rfl 9 (by decide) u_X9_gives_9 k_X9_gives_72 rfl rfl (show M_12 105 9 = M 105 9 from by rw [e_12_105]) dX9_gives_55 ?_
          refine vv_icmp_ge (tgt := 70) X (by omega) (by omega) dX9_gives_58 (by decide) (fun c_58 => ?_) (fun c_58 => ?_)
          · skip
            refine vv_iconst (n := 0) X dX9_gives_70 ?_
            refine vv_iast (ix := (29 + k)) X (by decide) sh_106 (by decide) (by omega) (h8) dX9_gives_71 ?_
            refine vv_iinc (lv' := [(1, .int (zI (a1 + 1))), (0, .ref (ad 105))]) X 1 rfl (by decide) rfl dX9_gives_72 ?_
            refine vv_goto (tgt := 12) X (by decide) dX9_gives_75 ?_
            refine vv_sub (lv' := [(0, .ref (ad 105)), (1, .int (zI (a1 + 1)))]) [1, 0] rfl ?_
            exact ih_12 (up2 (up2 M_12 106 (23 + k) 0) 106 (29 + k) 0) (k + 1) (a1 + 1) (by omega) (by omega) (eqx_up _ _ (eqx_up _ _ hE (by decide)) (by decide)) (fun j => by
              have hjj := hj j
              show uz (uz (M_12 106) (23 + k) _) (29 + k) _ j = _
              unfold uz
              by_cases q1 : j = 29 + k
              · rw [if_pos q1, if_neg (show ¬ j = 2 by omega), if_neg (show ¬ (23 ≤ j ∧ j < 23 + (k + 1)) by omega), if_pos (show 29 ≤ j ∧ j < 29 + (k + 1) by omega), show j - 29 = k by omega]
                first | (exfalso; omega) | rw [if_pos (by omega)] | rw [if_neg (by omega)]
              · rw [if_neg q1]
                by_cases q2 : j = 23 + k
                · rw [if_pos q2, if_neg (show ¬ j = 2 by omega), if_pos (show 23 ≤ j ∧ j < 23 + (k + 1) by omega), show j - 23 = k by omega]
                  first | (exfalso; omega) | rw [if_pos (by omega)] | rw [if_neg (by omega)]
                · rw [if_neg q2, hjj]
                  by_cases q3 : j = 2
                  · rw [if_pos q3, if_pos q3]
                  · rw [if_neg q3, if_neg q3]
                    have e1 : (23 ≤ j ∧ j < 23 + k) ↔ (23 ≤ j ∧ j < 23 + (k + 1)) := by omega
                    have e2 : (29 ≤ j ∧ j < 29 + k) ↔ (29 ≤ j ∧ j < 29 + (k + 1)) := by omega
                    simp only [e1, e2]) (by omega)
          · skip
            refine vv_aload_n X 0 rfl rfl dX9_gives_61 ?_
            refine vv_getr (Nf := 20) (ref := (TX9 8).1) X (by decide) sh_105 rfl 8 (by decide) u_X9_gives_9 k_X9_gives_28 rfl rfl dX9_gives_62 ?_
            refine vv_iload_n X 1 rfl rfl dX9_gives_65 ?_
            refine vv_iald (z := (M 112 k)) X (by decide) sh_112 (by decide) (by omega) (by first | (rw [h6]; done) | (rw [h6]; exact (show M_12 112 k = M 112 k from by rw [e_12_112]))) dX9_gives_66 ?_
            refine vv_goto (tgt := 71) X (by decide) dX9_gives_67 ?_
            refine vv_iast (ix := (29 + k)) X (by decide) sh_106 (by decide) (by omega) (h8) dX9_gives_71 ?_
            refine vv_iinc (lv' := [(1, .int (zI (a1 + 1))), (0, .ref (ad 105))]) X 1 rfl (by decide) rfl dX9_gives_72 ?_
            refine vv_goto (tgt := 12) X (by decide) dX9_gives_75 ?_
            refine vv_sub (lv' := [(0, .ref (ad 105)), (1, .int (zI (a1 + 1)))]) [1, 0] rfl ?_
            exact ih_12 (up2 (up2 M_12 106 (23 + k) 0) 106 (29 + k) (M 112 k)) (k + 1) (a1 + 1) (by omega) (by omega) (eqx_up _ _ (eqx_up _ _ hE (by decide)) (by decide)) (fun j => by
              have hjj := hj j
              show uz (uz (M_12 106) (23 + k) _) (29 + k) _ j = _
              unfold uz
              by_cases q1 : j = 29 + k
              · rw [if_pos q1, if_neg (show ¬ j = 2 by omega), if_neg (show ¬ (23 ≤ j ∧ j < 23 + (k + 1)) by omega), if_pos (show 29 ≤ j ∧ j < 29 + (k + 1) by omega), show j - 29 = k by omega]
                first | (exfalso; omega) | rw [if_pos (by omega)] | rw [if_neg (by omega)]
              · rw [if_neg q1]
                by_cases q2 : j = 23 + k
                · rw [if_pos q2, if_neg (show ¬ j = 2 by omega), if_pos (show 23 ≤ j ∧ j < 23 + (k + 1) by omega), show j - 23 = k by omega]
                  first | (exfalso; omega) | rw [if_pos (by omega)] | rw [if_neg (by omega)]
                · rw [if_neg q2, hjj]
                  by_cases q3 : j = 2
                  · rw [if_pos q3, if_pos q3]
                  · rw [if_neg q3, if_neg q3]
                    have e1 : (23 ≤ j ∧ j < 23 + k) ↔ (23 ≤ j ∧ j < 23 + (k + 1)) := by omega
                    have e2 : (29 ≤ j ∧ j < 29 + k) ↔ (29 ≤ j ∧ j < 29 + (k + 1)) := by omega
                    simp only [e1, e2]) (by omega)
        · skip
          refine vv_aload_n X 0 rfl rfl dX9_gives_34 ?_
          refine vv_getr (Nf := 20) (ref := (TX9 7).1) X (by decide) sh_105 rfl 7 (by decide) u_X9_gives_9 k_X9_gives_25 rfl rfl dX9_gives_35 ?_
          refine vv_iload_n X 1 rfl rfl dX9_gives_38 ?_
          refine vv_iald (z := (M 111 k)) X (by decide) sh_111 (by decide) (by omega) (by first | (rw [h6]; done) | (rw [h6]; exact (show M_12 111 k = M 111 k from by rw [e_12_111]))) dX9_gives_39 ?_
          refine vv_goto (tgt := 44) X (by decide) dX9_gives_40 ?_
          refine vv_iast (ix := (23 + k)) X (by decide) sh_106 (by decide) (by omega) (h7) dX9_gives_44 ?_
          refine vv_aload_n X 0 rfl rfl dX9_gives_45 ?_
          refine vv_getr (Nf := 20) (ref := (TX9 0).1) X (by decide) sh_105 rfl 0 (by decide) u_X9_gives_9 k_X9_gives_7 rfl rfl dX9_gives_46 ?_
          refine vv_bipush (n := 29) X (by decide) dX9_gives_49 ?_
          refine vv_iload_n X 1 rfl rfl dX9_gives_51 ?_
          refine vv_iadd X dX9_gives_52 ?_
          refine vv_iload_n X 1 rfl rfl dX9_gives_53 ?_
          refine vv_aload_n X 0 rfl rfl dX9_gives_54 ?_
          refine vv_geti (Nf := 20) (ref := (TX9 9).1) (z := (M 105 9)) X (by decide) sh_105 rfl 9 (by decide) u_X9_gives_9 k_X9_gives_72 rfl rfl (show M_12 105 9 = M 105 9 from by rw [e_12_105]) dX9_gives_55 ?_
          refine vv_icmp_ge (tgt := 70) X (by omega) (by omega) dX9_gives_58 (by decide) (fun c_58 => ?_) (fun c_58 => ?_)
          · skip
            refine vv_iconst (n := 0) X dX9_gives_70 ?_
            refine vv_iast (ix := (29 + k)) X (by decide) sh_106 (by decide) (by omega) (h8) dX9_gives_71 ?_
            refine vv_iinc (lv' := [(1, .int (zI (a1 + 1))), (0, .ref (ad 105))]) X 1 rfl (by decide) rfl dX9_gives_72 ?_
            refine vv_goto (tgt := 12) X (by decide) dX9_gives_75 ?_
            refine vv_sub (lv' := [(0, .ref (ad 105)), (1, .int (zI (a1 + 1)))]) [1, 0] rfl ?_
            exact ih_12 (up2 (up2 M_12 106 (23 + k) (M 111 k)) 106 (29 + k) 0) (k + 1) (a1 + 1) (by omega) (by omega) (eqx_up _ _ (eqx_up _ _ hE (by decide)) (by decide)) (fun j => by
              have hjj := hj j
              show uz (uz (M_12 106) (23 + k) _) (29 + k) _ j = _
              unfold uz
              by_cases q1 : j = 29 + k
              · rw [if_pos q1, if_neg (show ¬ j = 2 by omega), if_neg (show ¬ (23 ≤ j ∧ j < 23 + (k + 1)) by omega), if_pos (show 29 ≤ j ∧ j < 29 + (k + 1) by omega), show j - 29 = k by omega]
                first | (exfalso; omega) | rw [if_pos (by omega)] | rw [if_neg (by omega)]
              · rw [if_neg q1]
                by_cases q2 : j = 23 + k
                · rw [if_pos q2, if_neg (show ¬ j = 2 by omega), if_pos (show 23 ≤ j ∧ j < 23 + (k + 1) by omega), show j - 23 = k by omega]
                  first | (exfalso; omega) | rw [if_pos (by omega)] | rw [if_neg (by omega)]
                · rw [if_neg q2, hjj]
                  by_cases q3 : j = 2
                  · rw [if_pos q3, if_pos q3]
                  · rw [if_neg q3, if_neg q3]
                    have e1 : (23 ≤ j ∧ j < 23 + k) ↔ (23 ≤ j ∧ j < 23 + (k + 1)) := by omega
                    have e2 : (29 ≤ j ∧ j < 29 + k) ↔ (29 ≤ j ∧ j < 29 + (k + 1)) := by omega
                    simp only [e1, e2]) (by omega)
          · skip
            refine vv_aload_n X 0 rfl rfl dX9_gives_61 ?_
            refine vv_getr (Nf := 20) (ref := (TX9 8).1) X (by decide) sh_105 rfl 8 (by decide) u_X9_gives_9 k_X9_gives_28 rfl rfl dX9_gives_62 ?_
            refine vv_iload_n X 1 rfl rfl dX9_gives_65 ?_
            refine vv_iald (z := (M 112 k)) X (by decide) sh_112 (by decide) (by omega) (by first | (rw [h6]; done) | (rw [h6]; exact (show M_12 112 k = M 112 k from by rw [e_12_112]))) dX9_gives_66 ?_
            refine vv_goto (tgt := 71) X (by decide) dX9_gives_67 ?_
            refine vv_iast (ix := (29 + k)) X (by decide) sh_106 (by decide) (by omega) (h8) dX9_gives_71 ?_
            refine vv_iinc (lv' := [(1, .int (zI (a1 + 1))), (0, .ref (ad 105))]) X 1 rfl (by decide) rfl dX9_gives_72 ?_
            refine vv_goto (tgt := 12) X (by decide) dX9_gives_75 ?_
            refine vv_sub (lv' := [(0, .ref (ad 105)), (1, .int (zI (a1 + 1)))]) [1, 0] rfl ?_
            exact ih_12 (up2 (up2 M_12 106 (23 + k) (M 111 k)) 106 (29 + k) (M 112 k)) (k + 1) (a1 + 1) (by omega) (by omega) (eqx_up _ _ (eqx_up _ _ hE (by decide)) (by decide)) (fun j => by
              have hjj := hj j
              show uz (uz (M_12 106) (23 + k) _) (29 + k) _ j = _
              unfold uz
              by_cases q1 : j = 29 + k
              · rw [if_pos q1, if_neg (show ¬ j = 2 by omega), if_neg (show ¬ (23 ≤ j ∧ j < 23 + (k + 1)) by omega), if_pos (show 29 ≤ j ∧ j < 29 + (k + 1) by omega), show j - 29 = k by omega]
                first | (exfalso; omega) | rw [if_pos (by omega)] | rw [if_neg (by omega)]
              · rw [if_neg q1]
                by_cases q2 : j = 23 + k
                · rw [if_pos q2, if_neg (show ¬ j = 2 by omega), if_pos (show 23 ≤ j ∧ j < 23 + (k + 1) by omega), show j - 23 = k by omega]
                  first | (exfalso; omega) | rw [if_pos (by omega)] | rw [if_neg (by omega)]
                · rw [if_neg q2, hjj]
                  by_cases q3 : j = 2
                  · rw [if_pos q3, if_pos q3]
                  · rw [if_neg q3, if_neg q3]
                    have e1 : (23 ≤ j ∧ j < 23 + k) ↔ (23 ≤ j ∧ j < 23 + (k + 1)) := by omega
                    have e2 : (29 ≤ j ∧ j < 29 + k) ↔ (29 ≤ j ∧ j < 29 + (k + 1)) := by omega
                    simp only [e1, e2]) (by omega)
  refine vv_sub (lv' := [(0, .ref (ad 105)), (1, .int (zI 0))]) [1, 0] rfl ?_
  exact loop_12 _ (up2 M 106 2 (M 105 9)) 0 0 rfl (by omega) (eqx_up _ _ (eqx_rf _ _) (by decide)) (fun j => by
    show uz (M 106) 2 (M 105 9) j = _
    unfold uz
    by_cases q : j = 2
    · rw [if_pos q, if_pos q]
    · rw [if_neg q, if_neg q, if_neg (by omega), if_neg (by omega)]) (Nat.lt_succ_self _)
