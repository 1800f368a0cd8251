theorem u_X4_append_4 : ∀ w ∈ u_ws RX4 TX4 6, w ∈ wsX4_append := by decide +kernel
theorem k_X4_append_11 : Cond.fieldLink yX4_append.cls 11 (TX4 0).1 (TX4 0).2.1 (TX4 0).2.2.1 ∈ wsX4_append := by decide +kernel
theorem k_X4_append_21 : Cond.fieldLink yX4_append.cls 21 (TX4 2).1 (TX4 2).2.1 (TX4 2).2.2.1 ∈ wsX4_append := by decide +kernel
set_option maxRecDepth 100000 in
set_option maxHeartbeats 4000000 in
theorem c_X4_append (l : Launch) (D : va_G) {ad : Nat → Nat} (cA : Nat → ClassId) (had : adok ad) (M : Mem) (u : Nat) (hu : u < 18446744073709551616) (hl : 0 ≤ M 95 2 ∧ M 95 2 ≤ 80) : CtI l yX4_append wsX4_append 0 0 D ad cA [.ref (ad 95), .long (uL u)] M (fun z M1 => putOf u (M 95 2) (M 96) z (M1 95 2) (M1 96) ∧ eqx M M1 [95, 96] ∧ ∀ k : Nat, k ≠ 2 → M1 95 k = M 95 k) := by
  refine CtI.of (cc := cX4_append) (maxL := 7) (ret := (some .int)) had (by decide) rfl (Nat.le_of_ble_eq_true rfl) ?_
  intro p e s m args below meth c X hm
  show VV p l e { frames := 0, cells := 0, slots := 0, locals := 0 } s m args below meth c 7 D ad cA (Afr ad s.heap.size) 0 0 (QI below args s D ad cA (fun z M1 => putOf u (M 95 2) (M 96) z (M1 95 2) (M1 96) ∧ eqx M M1 [95, 96] ∧ ∀ k : Nat, k ≠ 2 → M1 95 k = M 95 k)) M 0 [(0, .ref (ad 95)), (1, .long (uL u))] []
  refine vv_lload_n X 1 rfl rfl dX4_append_0 ?_
  refine vv_lstore_n (lv' := [(3, .long (uL u)), (0, .ref (ad 95)), (1, .long (uL u))]) X rfl (by decide) rfl dX4_append_1 ?_
  refine vv_iconst (n := 0) X dX4_append_2 ?_
  refine vv_istore (lv' := [(5, .int (zI 0)), (3, .long (uL u)), (0, .ref (ad 95)), (1, .long (uL u))]) X (by decide) rfl dX4_append_3 ?_
  have loop_5 : ∀ (n : Nat)  (k : Nat) (w : Nat) (a5 : Int), a5 = (k : Int) → k ≤ 8 → w = u / 256 ^ k → w < 18446744073709551616 → (1 ≤ k → w < 72057594037927936) → sz 8 u = k + sz (8 - k) w → (∀ q : Nat, q < k → okc u q) → 8 - k < n → VV p l e { frames := 0, cells := 0, slots := 0, locals := 0 } s m args below meth c 7 D ad cA (Afr ad s.heap.size) 0 0 (QI below args s D ad cA (fun z M1 => putOf u (M 95 2) (M 96) z (M1 95 2) (M1 96) ∧ eqx M M1 [95, 96] ∧ ∀ k : Nat, k ≠ 2 → M1 95 k = M 95 k)) M 5 [(0, .ref (ad 95)), (1, .long (uL u)), (3, .long (uL w)), (5, .int (zI a5))] [] := by
    intro n
    induction n with
    | zero => intro k w a5 h5 hk hw hw64 hw56 hsz hok hn; exact absurd hn (Nat.not_lt_zero _)
    | succ n ih_5 =>
      intro k w a5 h5 hk hw hw64 hw56 hsz hok hn
      have hbt : bt u k = w % 256 := by unfold bt; rw [← hw]
      refine vv_iload X 3 rfl dX4_append_5 ?_
      refine vv_bipush (n := 8) X (by decide) dX4_append_7 ?_
      refine vv_icmp_ge (tgt := 58) X (by omega) (by omega) dX4_append_9 (by decide) (fun c_9 => ?_) (fun c_9 => ?_)
      · skip
        have hS : sz 8 u = k := by rw [hsz, sz_0 (by omega)]; omega
        refine vv_iload X 3 rfl dX4_append_58 ?_
        refine vv_if_eq (tgt := 69) X (by omega) dX4_append_60 (by decide) (fun c_60 => ?_) (fun c_60 => ?_)
        · skip
          refine vv_bipush (n := (-2)) X (by decide) dX4_append_69 ?_
          exact vv_iret X hm (by
            have hB : pBad u := Or.inl (by omega)
            exact ⟨⟨fun _ => ⟨rfl, rfl, rfl⟩, fun q => absurd hB q⟩, eqx_rf _ _, fun _ _ => rfl⟩) dX4_append_71
        · skip
          refine vv_lload_n X 2 rfl rfl dX4_append_63 ?_
          refine vv_lconst (v := 0) X rfl dX4_append_64 ?_
          refine vv_lcmp X (uL_cmp (n := w) (by have := hw56 (by omega); omega)) dX4_append_65 ?_
          refine vv_if_eq (tgt := 72) X (by split <;> omega) dX4_append_66 (by decide) (fun c_66 => ?_) (fun c_66 => ?_)
          · skip
            have hw0 : w = 0 := by
              rcases Nat.eq_zero_or_pos w with q | q
              · exact q
              · rw [if_pos q] at c_66; omega
            have hG : ¬ pBad u := pGood hS (by omega) hw hw0 hok
            refine vv_aload_n X 0 rfl rfl dX4_append_72 ?_
            refine vv_geti (Nf := 6) (ref := (TX4 2).1) (z := (M 95 2)) X (by decide) sh_95 rfl 2 (by decide) u_X4_append_4 k_X4_append_21 rfl rfl (rfl) dX4_append_73 ?_
            refine vv_iload X 3 rfl dX4_append_76 ?_
            refine vv_iadd X dX4_append_78 ?_
            refine vv_bipush (n := 80) X (by decide) dX4_append_79 ?_
            refine vv_icmp_le (tgt := 87) X (by omega) (by omega) dX4_append_81 (by decide) (fun c_81 => ?_) (fun c_81 => ?_)
            · skip
              refine vv_iconst (n := 0) X dX4_append_87 ?_
              refine vv_istore (lv' := [(6, .int (zI 0)), (0, .ref (ad 95)), (1, .long (uL u)), (3, .long (uL w)), (5, .int (zI a5))]) X (by decide) rfl dX4_append_88 ?_
              have loop_90 : ∀ (n : Nat) (M_90 : Mem) (t : Nat) (a6 : Int), a6 = (t : Int) → t ≤ k → eqx M M_90 [96] → (∀ j : Nat, M_90 96 j = if M 95 2 + (k : Int) - (t : Int) ≤ (j : Int) ∧ (j : Int) < M 95 2 + (k : Int) then ((bt u ((M 95 2).toNat + k - 1 - j) : Nat) : Int) else M 96 j) → k - t < n → VV p l e { frames := 0, cells := 0, slots := 0, locals := 0 } s m args below meth c 7 D ad cA (Afr ad s.heap.size) 0 0 (QI below args s D ad cA (fun z M1 => putOf u (M 95 2) (M 96) z (M1 95 2) (M1 96) ∧ eqx M M1 [95, 96] ∧ ∀ k : Nat, k ≠ 2 → M1 95 k = M 95 k)) M_90 90 [(0, .ref (ad 95)), (1, .long (uL u)), (3, .long (uL w)), (5, .int (zI a5)), (6, .int (zI a6))] [] := by
                intro n
                induction n with
                | zero => intro M_90 t a6 h6 ht hE hj hn; exact absurd hn (Nat.not_lt_zero _)
                | succ n ih_90 =>
                  intro M_90 t a6 h6 ht hE hj hn
                  have e_90_95 : M_90 95 = M 95 := hE 95 (by decide)
                  refine vv_iload X 4 rfl dX4_append_90 ?_
                  refine vv_iload X 3 rfl dX4_append_92 ?_
                  refine vv_icmp_ge (tgt := 133) X (by omega) (by omega) dX4_append_94 (by decide) (fun c_94 => ?_) (fun c_94 => ?_)
                  · skip
                    refine vv_aload_n X 0 rfl rfl dX4_append_133 ?_
                    refine vv_dup X rfl dX4_append_134 ?_
                    refine vv_geti (Nf := 6) (ref := (TX4 2).1) (z := (M 95 2)) X (by decide) sh_95 rfl 2 (by decide) u_X4_append_4 k_X4_append_21 rfl rfl (show M_90 95 2 = M 95 2 from by rw [e_90_95]) dX4_append_135 ?_
                    refine vv_iload X 3 rfl dX4_append_138 ?_
                    refine vv_iadd X dX4_append_140 ?_
                    refine vv_puti (Nf := 6) (ref := (TX4 2).1) X (by decide) sh_95 rfl 2 (by decide) u_X4_append_4 k_X4_append_21 rfl tyX4_ok nmX4 rfl (by decide +kernel) rfl rfl dX4_append_141 ?_
                    refine vv_aload_n X 0 rfl rfl dX4_append_144 ?_
                    refine vv_geti (Nf := 6) (ref := (TX4 2).1) (z := ((M 95 2) + a5)) X (by decide) sh_95 rfl 2 (by decide) u_X4_append_4 k_X4_append_21 rfl rfl (rfl) dX4_append_145 ?_
                    exact vv_iret X hm (by
                      have e2 : M_90 95 = M 95 := by rw [e_90_95]
                      refine ⟨⟨fun q => absurd q hG, fun _ => ⟨fun q => by rw [hS] at q; omega, fun _ => ⟨by rw [hS]; omega, by rw [up2_s], fun j => ?_⟩⟩⟩, eqx_up _ _ (eqx_mono hE (by decide)) (by decide), fun q hq => by rw [up2_m _ _ _ hq, e2]⟩
                      rw [up2_n _ _ _ (by decide), hj j, hS]
                      have e : (M 95 2 + (k : Int) - (t : Int) ≤ (j : Int) ∧ (j : Int) < M 95 2 + (k : Int)) ↔ (M 95 2 ≤ (j : Int) ∧ (j : Int) < M 95 2 + (k : Int)) := by omega
                      simp only [e]) dX4_append_148
                  · skip
                    refine vv_aload_n X 0 rfl rfl dX4_append_97 ?_
                    refine vv_getr (Nf := 6) (ref := (TX4 0).1) X (by decide) sh_95 rfl 0 (by decide) u_X4_append_4 k_X4_append_11 rfl rfl dX4_append_98 ?_
                    refine vv_aload_n X 0 rfl rfl dX4_append_101 ?_
                    refine vv_geti (Nf := 6) (ref := (TX4 2).1) (z := (M 95 2)) X (by decide) sh_95 rfl 2 (by decide) u_X4_append_4 k_X4_append_21 rfl rfl (show M_90 95 2 = M 95 2 from by rw [e_90_95]) dX4_append_102 ?_
                    refine vv_iload X 3 rfl dX4_append_105 ?_
                    refine vv_iadd X dX4_append_107 ?_
                    refine vv_iconst (n := 1) X dX4_append_108 ?_
                    refine vv_isub X dX4_append_109 ?_
                    refine vv_iload X 4 rfl dX4_append_110 ?_
                    refine vv_isub X dX4_append_112 ?_
                    refine vv_lload_n X 1 rfl rfl dX4_append_113 ?_
                    refine vv_bipush (n := 8) X (by decide) dX4_append_114 ?_
                    refine vv_iload X 4 rfl dX4_append_116 ?_
                    refine vv_imul X dX4_append_118 ?_
                    refine vv_lushr (v := uL (u / 256 ^ t)) X (uL_shk hu (by omega) h6) dX4_append_119 ?_
                    refine vv_ldc2 (v := 255) X (by decide +kernel) dX4_append_120 ?_
                    refine vv_land X (uL_and (n := (u / 256 ^ t))) dX4_append_123 ?_
                    refine vv_l2i X (uL_i (n := ((u / 256 ^ t) % 256)) (Nat.mod_lt _ (by decide))) dX4_append_124 ?_
                    refine vv_i2c X (i2c_n (n := ((u / 256 ^ t) % 256)) (Nat.mod_lt _ (by decide))) dX4_append_125 ?_
                    refine vv_cast (ix := (Int.toNat ((((M 95 2) + a5) - 1) - a6))) X (by decide) sh_96 (by decide) (by omega) (rfl) (nar_n (Nat.mod_lt _ (by decide))) dX4_append_126 ?_
                    refine vv_iinc (lv' := [(6, .int (zI (a6 + 1))), (0, .ref (ad 95)), (1, .long (uL u)), (3, .long (uL w)), (5, .int (zI a5))]) X 4 rfl (by decide) rfl dX4_append_127 ?_
                    refine vv_goto (tgt := 90) X (by decide) dX4_append_130 ?_
                    refine vv_sub (lv' := [(0, .ref (ad 95)), (1, .long (uL u)), (3, .long (uL w)), (5, .int (zI a5)), (6, .int (zI (a6 + 1)))]) [1, 2, 3, 4, 0] rfl ?_
                    exact ih_90 (up2 M_90 96 (Int.toNat ((((M 95 2) + a5) - 1) - a6)) ((((u / 256 ^ t) % 256) : Nat) : Int)) (t + 1) (a6 + 1) (by omega) (by omega) (eqx_up _ _ hE (by decide)) (fun j => by
                      show uz (M_90 96) _ _ j = _
                      unfold uz
                      by_cases q : j = ((M 95 2 + a5 - 1) - a6).toNat
                      · rw [if_pos q, if_pos (by omega), show (M 95 2).toNat + k - 1 - j = t by omega]
                        rfl
                      · rw [if_neg q, hj j]
                        have e : (M 95 2 + (k : Int) - (t : Int) ≤ (j : Int) ∧ (j : Int) < M 95 2 + (k : Int)) ↔ (M 95 2 + (k : Int) - ((t + 1 : Nat) : Int) ≤ (j : Int) ∧ (j : Int) < M 95 2 + (k : Int)) := by omega
                        simp only [e]) (by omega)
              refine vv_sub (lv' := [(0, .ref (ad 95)), (1, .long (uL u)), (3, .long (uL w)), (5, .int (zI a5)), (6, .int (zI 0))]) [1, 2, 3, 4, 0] rfl ?_
              exact loop_90 _ M 0 0 rfl (by omega) (eqx_rf _ _) (fun j => by rw [if_neg (by omega)]) (Nat.lt_succ_self _)
            · skip
              refine vv_bipush (n := (-4)) X (by decide) dX4_append_84 ?_
              exact vv_iret X hm (⟨⟨fun q => absurd q hG, fun _ => ⟨fun _ => ⟨rfl, rfl, rfl⟩, fun q => by rw [hS] at q; omega⟩⟩, eqx_rf _ _, fun _ _ => rfl⟩) dX4_append_86
          · skip
            refine vv_bipush (n := (-2)) X (by decide) dX4_append_69 ?_
            exact vv_iret X hm (by
              have hB : pBad u := Or.inr (Or.inr (fun q => by rw [hS, ← hw] at q; rw [if_neg (by omega)] at c_66; exact c_66 rfl))
              exact ⟨⟨fun _ => ⟨rfl, rfl, rfl⟩, fun q => absurd hB q⟩, eqx_rf _ _, fun _ _ => rfl⟩) dX4_append_71
      · skip
        refine vv_lload_n X 2 rfl rfl dX4_append_12 ?_
        refine vv_ldc2 (v := 255) X (by decide +kernel) dX4_append_13 ?_
        refine vv_land X (uL_and (n := w)) dX4_append_16 ?_
        refine vv_lconst (v := 0) X rfl dX4_append_17 ?_
        refine vv_lcmp X (uL_cmp (n := (w % 256)) (by omega)) dX4_append_18 ?_
        refine vv_if_eq (tgt := 58) X (by split <;> omega) dX4_append_19 (by decide) (fun c_19 => ?_) (fun c_19 => ?_)
        · skip
          have hS : sz 8 u = k := by rw [hsz, sz_0 (by omega)]; omega
          refine vv_iload X 3 rfl dX4_append_58 ?_
          refine vv_if_eq (tgt := 69) X (by omega) dX4_append_60 (by decide) (fun c_60 => ?_) (fun c_60 => ?_)
          · skip
            refine vv_bipush (n := (-2)) X (by decide) dX4_append_69 ?_
            exact vv_iret X hm (by
              have hB : pBad u := Or.inl (by omega)
              exact ⟨⟨fun _ => ⟨rfl, rfl, rfl⟩, fun q => absurd hB q⟩, eqx_rf _ _, fun _ _ => rfl⟩) dX4_append_71
          · skip
            refine vv_lload_n X 2 rfl rfl dX4_append_63 ?_
            refine vv_lconst (v := 0) X rfl dX4_append_64 ?_
            refine vv_lcmp X (uL_cmp (n := w) (by have := hw56 (by omega); omega)) dX4_append_65 ?_
            refine vv_if_eq (tgt := 72) X (by split <;> omega) dX4_append_66 (by decide) (fun c_66 => ?_) (fun c_66 => ?_)
            · skip
              have hw0 : w = 0 := by
                rcases Nat.eq_zero_or_pos w with q | q
                · exact q
                · rw [if_pos q] at c_66; omega
              have hG : ¬ pBad u := pGood hS (by omega) hw hw0 hok
              refine vv_aload_n X 0 rfl rfl dX4_append_72 ?_
              refine vv_geti (Nf := 6) (ref := (TX4 2).1) (z := (M 95 2)) X (by decide) sh_95 rfl 2 (by decide) u_X4_append_4 k_X4_append_21 rfl rfl (rfl) dX4_append_73 ?_
              refine vv_iload X 3 rfl dX4_append_76 ?_
              refine vv_iadd X dX4_append_78 ?_
              refine vv_bipush (n := 80) X (by decide) dX4_append_79 ?_
              refine vv_icmp_le (tgt := 87) X (by omega) (by omega) dX4_append_81 (by decide) (fun c_81 => ?_) (fun c_81 => ?_)
              · skip
                refine vv_iconst (n := 0) X dX4_append_87 ?_
                refine vv_istore (lv' := [(6, .int (zI 0)), (0, .ref (ad 95)), (1, .long (uL u)), (3, .long (uL w)), (5, .int (zI a5))]) X (by decide) rfl dX4_append_88 ?_
                have loop_90 : ∀ (n : Nat) (M_90 : Mem) (t : Nat) (a6 : Int), a6 = (t : Int) → t ≤ k → eqx M M_90 [96] → (∀ j : Nat, M_90 96 j = if M 95 2 + (k : Int) - (t : Int) ≤ (j : Int) ∧ (j : Int) < M 95 2 + (k : Int) then ((bt u ((M 95 2).toNat + k - 1 - j) : Nat) : Int) else M 96 j) → k - t < n → VV p l e { frames := 0, cells := 0, slots := 0, locals := 0 } s m args below meth c 7 D ad cA (Afr ad s.heap.size) 0 0 (QI below args s D ad cA (fun z M1 => putOf u (M 95 2) (M 96) z (M1 95 2) (M1 96) ∧ eqx M M1 [95, 96] ∧ ∀ k : Nat, k ≠ 2 → M1 95 k = M 95 k)) M_90 90 [(0, .ref (ad 95)), (1, .long (uL u)), (3, .long (uL w)), (5, .int (zI a5)), (6, .int (zI a6))] [] := by
                  intro n
                  induction n with
                  | zero => intro M_90 t a6 h6 ht hE hj hn; exact absurd hn (Nat.not_lt_zero _)
                  | succ n ih_90 =>
                    intro M_90 t a6 h6 ht hE hj hn
                    have e_90_95 : M_90 95 = M 95 := hE 95 (by decide)
                    refine vv_iload X 4 rfl dX4_append_90 ?_
                    refine vv_iload X 3 rfl dX4_append_92 ?_
                    refine vv_icmp_ge (tgt := 133) X (by omega) (by omega) dX4_append_94 (by decide) (fun c_94 => ?_) (fun c_94 => ?_)
                    · skip
                      refine vv_aload_n X 0 rfl rfl dX4_append_133 ?_
                      refine vv_dup X rfl dX4_append_134 ?_
                      refine vv_geti (Nf := 6) (ref := (TX4 2).1) (z := (M 95 2)) X (by decide) sh_95 rfl 2 (by decide) u_X4_append_4 k_X4_append_21 rfl rfl (show M_90 95 2 = M 95 2 from by rw [e_90_95]) dX4_append_135 ?_
                      refine vv_iload X 3 rfl dX4_append_138 ?_
                      refine vv_iadd X dX4_append_140 ?_
                      refine vv_puti (Nf := 6) (ref := (TX4 2).1) X (by decide) sh_95 rfl 2 (by decide) u_X4_append_4 k_X4_append_21 rfl tyX4_ok nmX4 rfl (by decide +kernel) rfl rfl dX4_append_141 ?_
                      refine vv_aload_n X 0 rfl rfl dX4_append_144 ?_
                      refine vv_geti (Nf := 6) (ref := (TX4 2).1) (z := ((M 95 2) + a5)) X (by decide) sh_95 rfl 2 (by decide) u_X4_append_4 k_X4_append_21 rfl rfl (rfl) dX4_append_145 ?_
                      exact vv_iret X hm (by
                        have e2 : M_90 95 = M 95 := by rw [e_90_95]
                        refine ⟨⟨fun q => absurd q hG, fun _ => ⟨fun q => by rw [hS] at q; omega, fun _ => ⟨by rw [hS]; omega, by rw [up2_s], fun j => ?_⟩⟩⟩, eqx_up _ _ (eqx_mono hE (by decide)) (by decide), fun q hq => by rw [up2_m _ _ _ hq, e2]⟩
                        rw [up2_n _ _ _ (by decide), hj j, hS]
                        have e : (M 95 2 + (k : Int) - (t : Int) ≤ (j : Int) ∧ (j : Int) < M 95 2 + (k : Int)) ↔ (M 95 2 ≤ (j : Int) ∧ (j : Int) < M 95 2 + (k : Int)) := by omega
                        simp only [e]) dX4_append_148
                    · skip
                      refine vv_aload_n X 0 rfl rfl dX4_append_97 ?_
                      refine vv_getr (Nf := 6) (ref := (TX4 0).1) X (by decide) sh_95 rfl 0 (by decide) u_X4_append_4 k_X4_append_11 rfl rfl dX4_append_98 ?_
                      refine vv_aload_n X 0 rfl rfl dX4_append_101 ?_
                      refine vv_geti (Nf := 6) (ref := (TX4 2).1) (z := (M 95 2)) X (by decide) sh_95 rfl 2 (by decide) u_X4_append_4 k_X4_append_21 rfl rfl (show M_90 95 2 = M 95 2 from by rw [e_90_95]) dX4_append_102 ?_
                      refine vv_iload X 3 rfl dX4_append_105 ?_
                      refine vv_iadd X dX4_append_107 ?_
                      refine vv_iconst (n := 1) X dX4_append_108 ?_
                      refine vv_isub X dX4_append_109 ?_
                      refine vv_iload X 4 rfl dX4_append_110 ?_
                      refine vv_isub X dX4_append_112 ?_
                      refine vv_lload_n X 1 rfl rfl dX4_append_113 ?_
                      refine vv_bipush (n := 8) X (by decide) dX4_append_114 ?_
                      refine vv_iload X 4 rfl dX4_append_116 ?_
                      refine vv_imul X dX4_append_118 ?_
                      refine vv_lushr (v := uL (u / 256 ^ t)) X (uL_shk hu (by omega) h6) dX4_append_119 ?_
                      refine vv_ldc2 (v := 255) X (by decide +kernel) dX4_append_120 ?_
                      refine vv_land X (uL_and (n := (u / 256 ^ t))) dX4_append_123 ?_
                      refine vv_l2i X (uL_i (n := ((u / 256 ^ t) % 256)) (Nat.mod_lt _ (by decide))) dX4_append_124 ?_
                      refine vv_i2c X (i2c_n (n := ((u / 256 ^ t) % 256)) (Nat.mod_lt _ (by decide))) dX4_append_125 ?_
                      refine vv_cast (ix := (Int.toNat ((((M 95 2) + a5) - 1) - a6))) X (by decide) sh_96 (by decide) (by omega) (rfl) (nar_n (Nat.mod_lt _ (by decide))) dX4_append_126 ?_
                      refine vv_iinc (lv' := [(6, .int (zI (a6 + 1))), (0, .ref (ad 95)), (1, .long (uL u)), (3, .long (uL w)), (5, .int (zI a5))]) X 4 rfl (by decide) rfl dX4_append_127 ?_
                      refine vv_goto (tgt := 90) X (by decide) dX4_append_130 ?_
                      refine vv_sub (lv' := [(0, .ref (ad 95)), (1, .long (uL u)), (3, .long (uL w)), (5, .int (zI a5)), (6, .int (zI (a6 + 1)))]) [1, 2, 3, 4, 0] rfl ?_
                      exact ih_90 (up2 M_90 96 (Int.toNat ((((M 95 2) + a5) - 1) - a6)) ((((u / 256 ^ t) % 256) : Nat) : Int)) (t + 1) (a6 + 1) (by omega) (by omega) (eqx_up _ _ hE (by decide)) (fun j => by
                        show uz (M_90 96) _ _ j = _
                        unfold uz
                        by_cases q : j = ((M 95 2 + a5 - 1) - a6).toNat
                        · rw [if_pos q, if_pos (by omega), show (M 95 2).toNat + k - 1 - j = t by omega]
                          rfl
                        · rw [if_neg q, hj j]
                          have e : (M 95 2 + (k : Int) - (t : Int) ≤ (j : Int) ∧ (j : Int) < M 95 2 + (k : Int)) ↔ (M 95 2 + (k : Int) - ((t + 1 : Nat) : Int) ≤ (j : Int) ∧ (j : Int) < M 95 2 + (k : Int)) := by omega
                          simp only [e]) (by omega)
                refine vv_sub (lv' := [(0, .ref (ad 95)), (1, .long (uL u)), (3, .long (uL w)), (5, .int (zI a5)), (6, .int (zI 0))]) [1, 2, 3, 4, 0] rfl ?_
                exact loop_90 _ M 0 0 rfl (by omega) (eqx_rf _ _) (fun j => by rw [if_neg (by omega)]) (Nat.lt_succ_self _)
              · skip
                refine vv_bipush (n := (-4)) X (by decide) dX4_append_84 ?_
                exact vv_iret X hm (⟨⟨fun q => absurd q hG, fun _ => ⟨fun _ => ⟨rfl, rfl, rfl⟩, fun q => by rw [hS] at q; omega⟩⟩, eqx_rf _ _, fun _ _ => rfl⟩) dX4_append_86
            · skip
              refine vv_bipush (n := (-2)) X (by decide) dX4_append_69 ?_
              exact vv_iret X hm (by
                have hB : pBad u := Or.inr (Or.inr (fun q => by rw [hS, ← hw] at q; rw [if_neg (by omega)] at c_66; exact c_66 rfl))
                exact ⟨⟨fun _ => ⟨rfl, rfl, rfl⟩, fun q => absurd hB q⟩, eqx_rf _ _, fun _ _ => rfl⟩) dX4_append_71
        · skip
          refine vv_lload_n X 2 rfl rfl dX4_append_22 ?_
          refine vv_ldc2 (v := 255) X (by decide +kernel) dX4_append_23 ?_
          refine vv_land X (uL_and (n := w)) dX4_append_26 ?_
          refine vv_l2i X (uL_i (n := (w % 256)) (by omega)) dX4_append_27 ?_
          refine vv_istore (lv' := [(6, .int (zI (((w % 256) : Nat) : Int))), (0, .ref (ad 95)), (1, .long (uL u)), (3, .long (uL w)), (5, .int (zI a5))]) X (by decide) rfl dX4_append_28 ?_
          refine vv_iload X 0 rfl dX4_append_30 ?_
          refine vv_bipush (n := 33) X (by decide) dX4_append_32 ?_
          refine vv_icmp_lt (tgt := 44) X (by omega) (by omega) dX4_append_34 (by decide) (fun c_34 => ?_) (fun c_34 => ?_)
          · skip
            refine vv_bipush (n := (-2)) X (by decide) dX4_append_44 ?_
            exact vv_iret X hm (by
              have hB : pBad u := Or.inr (Or.inl ⟨k, by rw [hsz, sz_s (by omega) (by omega)]; omega, fun q => by have := q.1; have := q.2; omega⟩)
              exact ⟨⟨fun _ => ⟨rfl, rfl, rfl⟩, fun q => absurd hB q⟩, eqx_rf _ _, fun _ _ => rfl⟩) dX4_append_46
          · skip
            refine vv_iload X 0 rfl dX4_append_37 ?_
            refine vv_bipush (n := 126) X (by decide) dX4_append_39 ?_
            refine vv_icmp_le (tgt := 47) X (by omega) (by omega) dX4_append_41 (by decide) (fun c_41 => ?_) (fun c_41 => ?_)
            · skip
              refine vv_lload_n X 3 rfl rfl dX4_append_47 ?_
              refine vv_bipush (n := 8) X (by decide) dX4_append_48 ?_
              refine vv_lushr (v := uL (w / 256)) X (uL_sh8 hw64) dX4_append_50 ?_
              refine vv_lstore_n (lv' := [(3, .long (uL (w / 256))), (6, .int (zI (((w % 256) : Nat) : Int))), (0, .ref (ad 95)), (1, .long (uL u)), (5, .int (zI a5))]) X rfl (by decide) rfl dX4_append_51 ?_
              refine vv_iinc (lv' := [(5, .int (zI (a5 + 1))), (3, .long (uL (w / 256))), (6, .int (zI (((w % 256) : Nat) : Int))), (0, .ref (ad 95)), (1, .long (uL u))]) X 4 rfl (by decide) rfl dX4_append_52 ?_
              refine vv_goto (tgt := 5) X (by decide) dX4_append_55 ?_
              refine vv_sub (lv' := [(0, .ref (ad 95)), (1, .long (uL u)), (3, .long (uL (w / 256))), (5, .int (zI (a5 + 1)))]) [3, 4, 1, 0] rfl ?_
              exact ih_5 (k + 1) (w / 256) (a5 + 1) (by omega) (by omega) (pw_s hw) (by omega) (fun _ => by omega) (by rw [hsz, sz_s (by omega) (by omega)]; omega) (fun q hq => by
                rcases (show q < k ∨ q = k by omega) with e | e
                · exact hok q e
                · rw [e]
                  show 33 ≤ bt u k ∧ bt u k ≤ 126
                  rw [hbt]
                  omega) (by omega)
            · skip
              refine vv_bipush (n := (-2)) X (by decide) dX4_append_44 ?_
              exact vv_iret X hm (by
                have hB : pBad u := Or.inr (Or.inl ⟨k, by rw [hsz, sz_s (by omega) (by omega)]; omega, fun q => by have := q.1; have := q.2; omega⟩)
                exact ⟨⟨fun _ => ⟨rfl, rfl, rfl⟩, fun q => absurd hB q⟩, eqx_rf _ _, fun _ _ => rfl⟩) dX4_append_46
  refine vv_sub (lv' := [(0, .ref (ad 95)), (1, .long (uL u)), (3, .long (uL u)), (5, .int (zI 0))]) [2, 3, 1, 0] rfl ?_
  exact loop_5 _ 0 u 0 rfl (by omega) (by rw [Nat.pow_zero, Nat.div_one]) hu (fun q => by omega) (Nat.zero_add _).symm (fun q hq => by omega) (Nat.lt_succ_self _)
theorem u_X8_put_8 : ∀ w ∈ u_ws RX8 TX8 9, w ∈ wsX8_put := by decide +kernel
theorem k_X8_put_34 : Cond.fieldLink yX8_put.cls 34 (TX8 4).1 (TX8 4).2.1 (TX8 4).2.2.1 ∈ wsX8_put := by decide +kernel
set_option maxRecDepth 100000 in
set_option maxHeartbeats 4000000 in
theorem c_X8_put (l : Launch) (D : va_G) {ad : Nat → Nat} (cA : Nat → ClassId) (had : adok ad) (M : Mem) (u : Nat) (hu : u < 18446744073709551616) (hl : 0 ≤ M 95 2 ∧ M 95 2 ≤ 80) : CtI l yX8_put wsX8_put 1 26 D ad cA [.ref (ad 90), .long (uL u)] M (fun z M1 => putOf u (M 95 2) (M 96) z (M1 95 2) (M1 96) ∧ eqx M M1 [95, 96] ∧ ∀ k : Nat, k ≠ 2 → M1 95 k = M 95 k) := by
  refine CtI.of (cc := cX8_put) (maxL := 3) (ret := (some .int)) had (by decide) rfl (Nat.le_of_ble_eq_true rfl) ?_
  intro p e s m args below meth c X hm
  show VV p l e { frames := 1, cells := 0, slots := 0, locals := 26 } s m args below meth c 3 D ad cA (Afr ad s.heap.size) 0 0 (QI below args s D ad cA (fun z M1 => putOf u (M 95 2) (M 96) z (M1 95 2) (M1 96) ∧ eqx M M1 [95, 96] ∧ ∀ k : Nat, k ≠ 2 → M1 95 k = M 95 k)) M 0 [(0, .ref (ad 90)), (1, .long (uL u))] []
  refine vv_aload_n X 0 rfl rfl dX8_put_0 ?_
  refine vv_getr (Nf := 9) (ref := (TX8 4).1) X (by decide) sh_90 rfl 4 (by decide) u_X8_put_8 k_X8_put_34 rfl rfl dX8_put_1 ?_
  refine vv_lload_n X 1 rfl rfl dX8_put_4 ?_
  refine vv_callVI (As := [.long (uL u)]) (st := []) (Nf := 6) X 1 (c_X4_append l D cA had M u (hu) (hl)) gX8_put_X4_append rfl (by decide +kernel) ⟨by decide, by decide⟩ (Nat.le_of_ble_eq_true rfl) ⟨by decide, by decide⟩ rfl (by decide) sh_95 rfl rfl dX8_put_5 (fun z5 Mc5 q_5 => ?_)
  exact vv_iret X hm (q_5) dX8_put_8
theorem u_X9_put_9 : ∀ w ∈ u_ws RX9 TX9 20, w ∈ wsX9_put := by decide +kernel
theorem k_X9_put_22 : Cond.fieldLink yX9_put.cls 22 (TX9 5).1 (TX9 5).2.1 (TX9 5).2.2.1 ∈ wsX9_put := by decide +kernel
theorem k_X9_put_150 : Cond.fieldLink yX9_put.cls 150 (TX9 6).1 (TX9 6).2.1 (TX9 6).2.2.1 ∈ wsX9_put := by decide +kernel
set_option maxRecDepth 100000 in
set_option maxHeartbeats 4000000 in
theorem c_X9_put (l : Launch) (D : va_G) {ad : Nat → Nat} (cA : Nat → ClassId) (had : adok ad) (M : Mem) (u : Nat) (hu : u < 18446744073709551616) (hl : 0 ≤ M 105 6 ∧ M 105 6 ≤ 80) : CtI l yX9_put wsX9_put 1 22 D ad cA [.ref (ad 105), .long (uL u)] M (fun z M1 => putOf u (M 105 6) (M 110) z (M1 105 6) (M1 110) ∧ eqx M M1 [105, 110] ∧ ∀ k : Nat, k ≠ 6 → M1 105 k = M 105 k) := by
  refine CtI.of (cc := cX9_put) (maxL := 8) (ret := (some .int)) had (by decide) rfl (Nat.le_of_ble_eq_true rfl) ?_
  intro p e s m args below meth c X hm
  show VV p l e { frames := 1, cells := 0, slots := 0, locals := 22 } s m args below meth c 8 D ad cA (Afr ad s.heap.size) 0 0 (QI below args s D ad cA (fun z M1 => putOf u (M 105 6) (M 110) z (M1 105 6) (M1 110) ∧ eqx M M1 [105, 110] ∧ ∀ k : Nat, k ≠ 6 → M1 105 k = M 105 k)) M 0 [(0, .ref (ad 105)), (1, .long (uL u))] []
  refine vv_iconst (n := 0) X dX9_put_0 ?_
  refine vv_istore_n (lv' := [(3, .int (zI 0)), (0, .ref (ad 105)), (1, .long (uL u))]) X rfl (by decide) rfl dX9_put_1 ?_
  refine vv_lload_n X 2 rfl rfl dX9_put_2 ?_
  refine vv_lstore (lv' := [(4, .long (uL u)), (3, .int (zI 0)), (0, .ref (ad 105)), (1, .long (uL u))]) X (by decide) rfl dX9_put_3 ?_
  refine vv_iconst (n := 1) X dX9_put_5 ?_
  refine vv_istore (lv' := [(6, .int (zI 1)), (4, .long (uL u)), (3, .int (zI 0)), (0, .ref (ad 105)), (1, .long (uL u))]) X (by decide) rfl dX9_put_6 ?_
  have loop_8 : ∀ (n : Nat)  (k : Nat) (w : Nat) (a3 : Int) (a6 : Int), a3 = (k : Int) → k ≤ 8 → w = u / 256 ^ k → w < 18446744073709551616 → (1 ≤ k → w < 72057594037927936) → sz 8 u = k + sz (8 - k) w → (a6 = 0 ∨ a6 = 1) → (a6 = 1 ↔ ∀ q : Nat, q < k → okc u q) → 8 - k < n → VV p l e { frames := 1, cells := 0, slots := 0, locals := 22 } s m args below meth c 8 D ad cA (Afr ad s.heap.size) 0 0 (QI below args s D ad cA (fun z M1 => putOf u (M 105 6) (M 110) z (M1 105 6) (M1 110) ∧ eqx M M1 [105, 110] ∧ ∀ k : Nat, k ≠ 6 → M1 105 k = M 105 k)) M 8 [(0, .ref (ad 105)), (1, .long (uL u)), (3, .int (zI a3)), (4, .long (uL w)), (6, .int (zI a6))] [] := by
    intro n
    induction n with
    | zero => intro k w a3 a6 h5 hk hw hw64 hw56 hsz ha6 hok hn; exact absurd hn (Nat.not_lt_zero _)
    | succ n ih_8 =>
      intro k w a3 a6 h5 hk hw hw64 hw56 hsz ha6 hok hn
      have hbt : bt u k = w % 256 := by unfold bt; rw [← hw]
      have hnx : (∀ q : Nat, q < k + 1 → okc u q) ↔ (∀ q : Nat, q < k → okc u q) ∧ (33 ≤ w % 256 ∧ w % 256 ≤ 126) := by
        rw [← hbt]
        constructor
        · intro q
          exact ⟨fun y hy => q y (by omega), q k (by omega)⟩
        · rintro ⟨q1, q2⟩ y hy
          rcases (show y < k ∨ y = k by omega) with e | e
          · exact q1 y e
          · rw [e]
            exact q2
      refine vv_iload_n X 2 rfl rfl dX9_put_8 ?_
      refine vv_bipush (n := 8) X (by decide) dX9_put_9 ?_
      refine vv_icmp_ge (tgt := 67) X (by omega) (by omega) dX9_put_11 (by decide) (fun c_11 => ?_) (fun c_11 => ?_)
      · skip
        have hS : sz 8 u = k := by rw [hsz, sz_0 (by omega)]; omega
        refine vv_iload_n X 2 rfl rfl dX9_put_67 ?_
        refine vv_if_eq (tgt := 83) X (by omega) dX9_put_68 (by decide) (fun c_68 => ?_) (fun c_68 => ?_)
        · skip
          refine vv_bipush (n := (-2)) X (by decide) dX9_put_83 ?_
          exact vv_iret X hm (by
            have hB : pBad u := Or.inl (by omega)
            exact ⟨⟨fun _ => ⟨rfl, rfl, rfl⟩, fun q => absurd hB q⟩, eqx_rf _ _, fun _ _ => rfl⟩) dX9_put_85
        · skip
          refine vv_iload X 4 rfl dX9_put_71 ?_
          refine vv_if_eq (tgt := 83) X (by omega) dX9_put_73 (by decide) (fun c_73 => ?_) (fun c_73 => ?_)
          · skip
            refine vv_bipush (n := (-2)) X (by decide) dX9_put_83 ?_
            exact vv_iret X hm (by
              have hB : pBad u := Classical.byContradiction fun q => by
                have : a6 = 1 := hok.mpr (fun y hy => Classical.byContradiction fun e => q (Or.inr (Or.inl ⟨y, by omega, e⟩)))
                omega
              exact ⟨⟨fun _ => ⟨rfl, rfl, rfl⟩, fun q => absurd hB q⟩, eqx_rf _ _, fun _ _ => rfl⟩) dX9_put_85
          · skip
            refine vv_lload X 3 rfl dX9_put_76 ?_
            refine vv_lconst (v := 0) X rfl dX9_put_78 ?_
            refine vv_lcmp X (uL_cmp (n := w) (by have := hw56 (by omega); omega)) dX9_put_79 ?_
            refine vv_if_eq (tgt := 86) X (by split <;> omega) dX9_put_80 (by decide) (fun c_80 => ?_) (fun c_80 => ?_)
            · skip
              have hw0 : w = 0 := by
                rcases Nat.eq_zero_or_pos w with q | q
                · exact q
                · rw [if_pos q] at c_80; omega
              have hG : ¬ pBad u := pGood hS (by omega) hw hw0 (hok.mp (by omega))
              refine vv_aload_n X 0 rfl rfl dX9_put_86 ?_
              refine vv_geti (Nf := 20) (ref := (TX9 6).1) (z := (M 105 6)) X (by decide) sh_105 rfl 6 (by decide) u_X9_put_9 k_X9_put_150 rfl rfl (rfl) dX9_put_87 ?_
              refine vv_iload_n X 2 rfl rfl dX9_put_90 ?_
              refine vv_iadd X dX9_put_91 ?_
              refine vv_bipush (n := 80) X (by decide) dX9_put_92 ?_
              refine vv_icmp_le (tgt := 100) X (by omega) (by omega) dX9_put_94 (by decide) (fun c_94 => ?_) (fun c_94 => ?_)
              · skip
                refine vv_iload_n X 2 rfl rfl dX9_put_100 ?_
                refine vv_iconst (n := 1) X dX9_put_101 ?_
                refine vv_isub X dX9_put_102 ?_
                refine vv_istore (lv' := [(7, .int (zI (a3 - 1))), (0, .ref (ad 105)), (1, .long (uL u)), (3, .int (zI a3)), (4, .long (uL w)), (6, .int (zI a6))]) X (by decide) rfl dX9_put_103 ?_
                have loop_105 : ∀ (n : Nat) (M_105 : Mem) (t : Nat) (a7 : Int), a7 = (k : Int) - 1 - (t : Int) → t ≤ k → eqx M M_105 [105, 110] → M_105 105 6 = M 105 6 + (t : Int) → (∀ q : Nat, q ≠ 6 → M_105 105 q = M 105 q) → (∀ j : Nat, M_105 110 j = if M 105 6 ≤ (j : Int) ∧ (j : Int) < M 105 6 + (t : Int) then ((bt u ((M 105 6).toNat + k - 1 - j) : Nat) : Int) else M 110 j) → k - t < n → VV p l e { frames := 1, cells := 0, slots := 0, locals := 22 } s m args below meth c 8 D ad cA (Afr ad s.heap.size) 0 0 (QI below args s D ad cA (fun z M1 => putOf u (M 105 6) (M 110) z (M1 105 6) (M1 110) ∧ eqx M M1 [105, 110] ∧ ∀ k : Nat, k ≠ 6 → M1 105 k = M 105 k)) M_105 105 [(0, .ref (ad 105)), (1, .long (uL u)), (3, .int (zI a3)), (4, .long (uL w)), (6, .int (zI a6)), (7, .int (zI a7))] [] := by
                  intro n
                  induction n with
                  | zero => intro M_105 t a7 h7 ht hE hj6 hq hj hn; exact absurd hn (Nat.not_lt_zero _)
                  | succ n ih_105 =>
                    intro M_105 t a7 h7 ht hE hj6 hq hj hn
                    have hk1 : 0 ≤ a7 → a7 = ((k - 1 - t : Nat) : Int) := fun q => by omega
                    refine vv_iload X 5 rfl dX9_put_105 ?_
                    refine vv_if_lt (tgt := 147) X (by omega) dX9_put_107 (by decide) (fun c_107 => ?_) (fun c_107 => ?_)
                    · skip
                      refine vv_aload_n X 0 rfl rfl dX9_put_147 ?_
                      refine vv_geti (Nf := 20) (ref := (TX9 6).1) (z := (M_105 105 6)) X (by decide) sh_105 rfl 6 (by decide) u_X9_put_9 k_X9_put_150 rfl rfl (rfl) dX9_put_148 ?_
                      exact vv_iret X hm (by
                        have et : t = k := by omega
                        refine ⟨⟨fun q => absurd q hG, fun _ => ⟨fun q => by rw [hS] at q; omega, fun _ => ⟨by rw [hS, hj6, et], rfl, fun j => ?_⟩⟩⟩, hE, hq⟩
                        rw [hj j, hS, et]) dX9_put_151
                    · skip
                      refine vv_aload_n X 0 rfl rfl dX9_put_110 ?_
                      refine vv_getr (Nf := 20) (ref := (TX9 5).1) X (by decide) sh_105 rfl 5 (by decide) u_X9_put_9 k_X9_put_22 rfl rfl dX9_put_111 ?_
                      refine vv_aload_n X 0 rfl rfl dX9_put_114 ?_
                      refine vv_geti (Nf := 20) (ref := (TX9 6).1) (z := (M_105 105 6)) X (by decide) sh_105 rfl 6 (by decide) u_X9_put_9 k_X9_put_150 rfl rfl (rfl) dX9_put_115 ?_
                      refine vv_lload_n X 1 rfl rfl dX9_put_118 ?_
                      refine vv_bipush (n := 8) X (by decide) dX9_put_119 ?_
                      refine vv_iload X 5 rfl dX9_put_121 ?_
                      refine vv_imul X dX9_put_123 ?_
                      refine vv_lushr (v := uL (u / 256 ^ (k - 1 - t))) X (uL_shk hu (by omega) (hk1 (by omega))) dX9_put_124 ?_
                      refine vv_ldc2 (v := 255) X (by decide +kernel) dX9_put_125 ?_
                      refine vv_land X (uL_and (n := (u / 256 ^ (k - 1 - t)))) dX9_put_128 ?_
                      refine vv_l2i X (uL_i (n := ((u / 256 ^ (k - 1 - t)) % 256)) (Nat.mod_lt _ (by decide))) dX9_put_129 ?_
                      refine vv_iast (ix := (Int.toNat (M_105 105 6))) X (by decide) sh_110 (by decide) (by omega) (rfl) dX9_put_130 ?_
                      refine vv_aload_n X 0 rfl rfl dX9_put_131 ?_
                      refine vv_dup X rfl dX9_put_132 ?_
                      refine vv_geti (Nf := 20) (ref := (TX9 6).1) (z := (M_105 105 6)) X (by decide) sh_105 rfl 6 (by decide) u_X9_put_9 k_X9_put_150 rfl rfl (rfl) dX9_put_133 ?_
                      refine vv_iconst (n := 1) X dX9_put_136 ?_
                      refine vv_iadd X dX9_put_137 ?_
                      refine vv_puti (Nf := 20) (ref := (TX9 6).1) X (by decide) sh_105 rfl 6 (by decide) u_X9_put_9 k_X9_put_150 rfl tyX9_ok nmX9 rfl (by decide +kernel) rfl rfl dX9_put_138 ?_
                      refine vv_iinc (lv' := [(7, .int (zI (a7 + (-1)))), (0, .ref (ad 105)), (1, .long (uL u)), (3, .int (zI a3)), (4, .long (uL w)), (6, .int (zI a6))]) X 5 rfl (by decide) rfl dX9_put_141 ?_
                      refine vv_goto (tgt := 105) X (by decide) dX9_put_144 ?_
                      refine vv_sub (lv' := [(0, .ref (ad 105)), (1, .long (uL u)), (3, .int (zI a3)), (4, .long (uL w)), (6, .int (zI a6)), (7, .int (zI (a7 + (-1))))]) [1, 2, 3, 4, 5, 0] rfl ?_
                      exact ih_105 (up2 (up2 M_105 110 (Int.toNat (M_105 105 6)) ((((u / 256 ^ (k - 1 - t)) % 256) : Nat) : Int)) 105 6 ((M_105 105 6) + 1)) (t + 1) (a7 + (-1)) (by omega) (by omega) (eqx_up _ _ (eqx_up _ _ hE (by decide)) (by decide)) (by rw [up2_s]; omega) (fun q h => by rw [up2_m _ _ _ h, up2_n _ _ _ (by decide)]; exact hq q h) (fun j => by
                        show uz (M_105 110) _ _ j = _
                        unfold uz
                        by_cases q : j = (M_105 105 6).toNat
                        · rw [if_pos q, if_pos (by omega), show (M 105 6).toNat + k - 1 - j = k - 1 - t by omega]
                          rfl
                        · rw [if_neg q, hj j]
                          have e : (M 105 6 ≤ (j : Int) ∧ (j : Int) < M 105 6 + (t : Int)) ↔ (M 105 6 ≤ (j : Int) ∧ (j : Int) < M 105 6 + ((t + 1 : Nat) : Int)) := by omega
                          simp only [e]) (by omega)
                refine vv_sub (lv' := [(0, .ref (ad 105)), (1, .long (uL u)), (3, .int (zI a3)), (4, .long (uL w)), (6, .int (zI a6)), (7, .int (zI (a3 - 1)))]) [1, 2, 3, 4, 5, 0] rfl ?_
                exact loop_105 _ M 0 (a3 - 1) (by omega) (by omega) (eqx_rf _ _) (by omega) (fun _ _ => rfl) (fun j => by rw [if_neg (by omega)]) (Nat.lt_succ_self _)
              · skip
                refine vv_bipush (n := (-4)) X (by decide) dX9_put_97 ?_
                exact vv_iret X hm (⟨⟨fun q => absurd q hG, fun _ => ⟨fun _ => ⟨rfl, rfl, rfl⟩, fun q => by rw [hS] at q; omega⟩⟩, eqx_rf _ _, fun _ _ => rfl⟩) dX9_put_99
            · skip
              refine vv_bipush (n := (-2)) X (by decide) dX9_put_83 ?_
              exact vv_iret X hm (by
                have hB : pBad u := Or.inr (Or.inr (fun q => by rw [hS, ← hw] at q; rw [if_neg (by omega)] at c_80; exact c_80 rfl))
                exact ⟨⟨fun _ => ⟨rfl, rfl, rfl⟩, fun q => absurd hB q⟩, eqx_rf _ _, fun _ _ => rfl⟩) dX9_put_85
      · skip
        refine vv_lload X 3 rfl dX9_put_14 ?_
        refine vv_ldc2 (v := 255) X (by decide +kernel) dX9_put_16 ?_
        refine vv_land X (uL_and (n := w)) dX9_put_19 ?_
        refine vv_lconst (v := 0) X rfl dX9_put_20 ?_
        refine vv_lcmp X (uL_cmp (n := (w % 256)) (by omega)) dX9_put_21 ?_
        refine vv_if_eq (tgt := 67) X (by split <;> omega) dX9_put_22 (by decide) (fun c_22 => ?_) (fun c_22 => ?_)
        · skip
          have hS : sz 8 u = k := by rw [hsz, sz_0 (by omega)]; omega
          refine vv_iload_n X 2 rfl rfl dX9_put_67 ?_
          refine vv_if_eq (tgt := 83) X (by omega) dX9_put_68 (by decide) (fun c_68 => ?_) (fun c_68 => ?_)
          · skip
            refine vv_bipush (n := (-2)) X (by decide) dX9_put_83 ?_
            exact vv_iret X hm (by
              have hB : pBad u := Or.inl (by omega)
              exact ⟨⟨fun _ => ⟨rfl, rfl, rfl⟩, fun q => absurd hB q⟩, eqx_rf _ _, fun _ _ => rfl⟩) dX9_put_85
          · skip
            refine vv_iload X 4 rfl dX9_put_71 ?_
            refine vv_if_eq (tgt := 83) X (by omega) dX9_put_73 (by decide) (fun c_73 => ?_) (fun c_73 => ?_)
            · skip
              refine vv_bipush (n := (-2)) X (by decide) dX9_put_83 ?_
              exact vv_iret X hm (by
                have hB : pBad u := Classical.byContradiction fun q => by
                  have : a6 = 1 := hok.mpr (fun y hy => Classical.byContradiction fun e => q (Or.inr (Or.inl ⟨y, by omega, e⟩)))
                  omega
                exact ⟨⟨fun _ => ⟨rfl, rfl, rfl⟩, fun q => absurd hB q⟩, eqx_rf _ _, fun _ _ => rfl⟩) dX9_put_85
            · skip
              refine vv_lload X 3 rfl dX9_put_76 ?_
              refine vv_lconst (v := 0) X rfl dX9_put_78 ?_
              refine vv_lcmp X (uL_cmp (n := w) (by have := hw56 (by omega); omega)) dX9_put_79 ?_
              refine vv_if_eq (tgt := 86) X (by split <;> omega) dX9_put_80 (by decide) (fun c_80 => ?_) (fun c_80 => ?_)
              · skip
                have hw0 : w = 0 := by
                  rcases Nat.eq_zero_or_pos w with q | q
                  · exact q
                  · rw [if_pos q] at c_80; omega
                have hG : ¬ pBad u := pGood hS (by omega) hw hw0 (hok.mp (by omega))
                refine vv_aload_n X 0 rfl rfl dX9_put_86 ?_
                refine vv_geti (Nf := 20) (ref := (TX9 6).1) (z := (M 105 6)) X (by decide) sh_105 rfl 6 (by decide) u_X9_put_9 k_X9_put_150 rfl rfl (rfl) dX9_put_87 ?_
                refine vv_iload_n X 2 rfl rfl dX9_put_90 ?_
                refine vv_iadd X dX9_put_91 ?_
                refine vv_bipush (n := 80) X (by decide) dX9_put_92 ?_
                refine vv_icmp_le (tgt := 100) X (by omega) (by omega) dX9_put_94 (by decide) (fun c_94 => ?_) (fun c_94 => ?_)
                · skip
                  refine vv_iload_n X 2 rfl rfl dX9_put_100 ?_
                  refine vv_iconst (n := 1) X dX9_put_101 ?_
                  refine vv_isub X dX9_put_102 ?_
                  refine vv_istore (lv' := [(7, .int (zI (a3 - 1))), (0, .ref (ad 105)), (1, .long (uL u)), (3, .int (zI a3)), (4, .long (uL w)), (6, .int (zI a6))]) X (by decide) rfl dX9_put_103 ?_
                  have loop_105 : ∀ (n : Nat) (M_105 : Mem) (t : Nat) (a7 : Int), a7 = (k : Int) - 1 - (t : Int) → t ≤ k → eqx M M_105 [105, 110] → M_105 105 6 = M 105 6 + (t : Int) → (∀ q : Nat, q ≠ 6 → M_105 105 q = M 105 q) → (∀ j : Nat, M_105 110 j = if M 105 6 ≤ (j : Int) ∧ (j : Int) < M 105 6 + (t : Int) then ((bt u ((M 105 6).toNat + k - 1 - j) : Nat) : Int) else M 110 j) → k - t < n → VV p l e { frames := 1, cells := 0, slots := 0, locals := 22 } s m args below meth c 8 D ad cA (Afr ad s.heap.size) 0 0 (QI below args s D ad cA (fun z M1 => putOf u (M 105 6) (M 110) z (M1 105 6) (M1 110) ∧ eqx M M1 [105, 110] ∧ ∀ k : Nat, k ≠ 6 → M1 105 k = M 105 k)) M_105 105 [(0, .ref (ad 105)), (1, .long (uL u)), (3, .int (zI a3)), (4, .long (uL w)), (6, .int (zI a6)), (7, .int (zI a7))] [] := by
                    intro n
                    induction n with
                    | zero => intro M_105 t a7 h7 ht hE hj6 hq hj hn; exact absurd hn (Nat.not_lt_zero _)
                    | succ n ih_105 =>
                      intro M_105 t a7 h7 ht hE hj6 hq hj hn
                      have hk1 : 0 ≤ a7 → a7 = ((k - 1 - t : Nat) : Int) := fun q => by omega
                      refine vv_iload X 5 rfl dX9_put_105 ?_
                      refine vv_if_lt (tgt := 147) X (by omega) dX9_put_107 (by decide) (fun c_107 => ?_) (fun c_107 => ?_)
                      · skip
                        refine vv_aload_n X 0 rfl rfl dX9_put_147 ?_
                        refine vv_geti (Nf := 20) (ref := (TX9 6).1) (z := (M_105 105 6)) X (by decide) sh_105 rfl 6 (by decide) u_X9_put_9 k_X9_put_150 rfl rfl (rfl) dX9_put_148 ?_
                        exact vv_iret X hm (by
                          have et : t = k := by omega
                          refine ⟨⟨fun q => absurd q hG, fun _ => ⟨fun q => by rw [hS] at q; omega, fun _ => ⟨by rw [hS, hj6, et], rfl, fun j => ?_⟩⟩⟩, hE, hq⟩
                          rw [hj j, hS, et]) dX9_put_151
                      · skip
                        refine vv_aload_n X 0 rfl rfl dX9_put_110 ?_
                        refine vv_getr (Nf := 20) (ref := (TX9 5).1) X (by decide) sh_105 rfl 5 (by decide) u_X9_put_9 k_X9_put_22 rfl rfl dX9_put_111 ?_
                        refine vv_aload_n X 0 rfl rfl dX9_put_114 ?_
                        refine vv_geti (Nf := 20) (ref := (TX9 6).1) (z := (M_105 105 6)) X (by decide) sh_105 rfl 6 (by decide) u_X9_put_9 k_X9_put_150 rfl rfl (rfl) dX9_put_115 ?_
                        refine vv_lload_n X 1 rfl rfl dX9_put_118 ?_
                        refine vv_bipush (n := 8) X (by decide) dX9_put_119 ?_
                        refine vv_iload X 5 rfl dX9_put_121 ?_
                        refine vv_imul X dX9_put_123 ?_
                        refine vv_lushr (v := uL (u / 256 ^ (k - 1 - t))) X (uL_shk hu (by omega) (hk1 (by omega))) dX9_put_124 ?_
                        refine vv_ldc2 (v := 255) X (by decide +kernel) dX9_put_125 ?_
                        refine vv_land X (uL_and (n := (u / 256 ^ (k - 1 - t)))) dX9_put_128 ?_
                        refine vv_l2i X (uL_i (n := ((u / 256 ^ (k - 1 - t)) % 256)) (Nat.mod_lt _ (by decide))) dX9_put_129 ?_
                        refine vv_iast (ix := (Int.toNat (M_105 105 6))) X (by decide) sh_110 (by decide) (by omega) (rfl) dX9_put_130 ?_
                        refine vv_aload_n X 0 rfl rfl dX9_put_131 ?_
                        refine vv_dup X rfl dX9_put_132 ?_
                        refine vv_geti (Nf := 20) (ref := (TX9 6).1) (z := (M_105 105 6)) X (by decide) sh_105 rfl 6 (by decide) u_X9_put_9 k_X9_put_150 rfl rfl (rfl) dX9_put_133 ?_
                        refine vv_iconst (n := 1) X dX9_put_136 ?_
                        refine vv_iadd X dX9_put_137 ?_
                        refine vv_puti (Nf := 20) (ref := (TX9 6).1) X (by decide) sh_105 rfl 6 (by decide) u_X9_put_9 k_X9_put_150 rfl tyX9_ok nmX9 rfl (by decide +kernel) rfl rfl dX9_put_138 ?_
                        refine vv_iinc (lv' := [(7, .int (zI (a7 + (-1)))), (0, .ref (ad 105)), (1, .long (uL u)), (3, .int (zI a3)), (4, .long (uL w)), (6, .int (zI a6))]) X 5 rfl (by decide) rfl dX9_put_141 ?_
                        refine vv_goto (tgt := 105) X (by decide) dX9_put_144 ?_
                        refine vv_sub (lv' := [(0, .ref (ad 105)), (1, .long (uL u)), (3, .int (zI a3)), (4, .long (uL w)), (6, .int (zI a6)), (7, .int (zI (a7 + (-1))))]) [1, 2, 3, 4, 5, 0] rfl ?_
                        exact ih_105 (up2 (up2 M_105 110 (Int.toNat (M_105 105 6)) ((((u / 256 ^ (k - 1 - t)) % 256) : Nat) : Int)) 105 6 ((M_105 105 6) + 1)) (t + 1) (a7 + (-1)) (by omega) (by omega) (eqx_up _ _ (eqx_up _ _ hE (by decide)) (by decide)) (by rw [up2_s]; omega) (fun q h => by rw [up2_m _ _ _ h, up2_n _ _ _ (by decide)]; exact hq q h) (fun j => by
                          show uz (M_105 110) _ _ j = _
                          unfold uz
                          by_cases q : j = (M_105 105 6).toNat
                          · rw [if_pos q, if_pos (by omega), show (M 105 6).toNat + k - 1 - j = k - 1 - t by omega]
                            rfl
                          · rw [if_neg q, hj j]
                            have e : (M 105 6 ≤ (j : Int) ∧ (j : Int) < M 105 6 + (t : Int)) ↔ (M 105 6 ≤ (j : Int) ∧ (j : Int) < M 105 6 + ((t + 1 : Nat) : Int)) := by omega
                            simp only [e]) (by omega)
                  refine vv_sub (lv' := [(0, .ref (ad 105)), (1, .long (uL u)), (3, .int (zI a3)), (4, .long (uL w)), (6, .int (zI a6)), (7, .int (zI (a3 - 1)))]) [1, 2, 3, 4, 5, 0] rfl ?_
                  exact loop_105 _ M 0 (a3 - 1) (by omega) (by omega) (eqx_rf _ _) (by omega) (fun _ _ => rfl) (fun j => by rw [if_neg (by omega)]) (Nat.lt_succ_self _)
                · skip
                  refine vv_bipush (n := (-4)) X (by decide) dX9_put_97 ?_
                  exact vv_iret X hm (⟨⟨fun q => absurd q hG, fun _ => ⟨fun _ => ⟨rfl, rfl, rfl⟩, fun q => by rw [hS] at q; omega⟩⟩, eqx_rf _ _, fun _ _ => rfl⟩) dX9_put_99
              · skip
                refine vv_bipush (n := (-2)) X (by decide) dX9_put_83 ?_
                exact vv_iret X hm (by
                  have hB : pBad u := Or.inr (Or.inr (fun q => by rw [hS, ← hw] at q; rw [if_neg (by omega)] at c_80; exact c_80 rfl))
                  exact ⟨⟨fun _ => ⟨rfl, rfl, rfl⟩, fun q => absurd hB q⟩, eqx_rf _ _, fun _ _ => rfl⟩) dX9_put_85
        · skip
          refine vv_iload X 4 rfl dX9_put_25 ?_
          refine vv_if_eq (tgt := 51) X (by omega) dX9_put_27 (by decide) (fun c_27 => ?_) (fun c_27 => ?_)
          · skip
            refine vv_iconst (n := 0) X dX9_put_51 ?_
            refine vv_istore (lv' := [(6, .int (zI 0)), (0, .ref (ad 105)), (1, .long (uL u)), (3, .int (zI a3)), (4, .long (uL w))]) X (by decide) rfl dX9_put_52 ?_
            refine vv_lload X 4 rfl dX9_put_54 ?_
            refine vv_bipush (n := 8) X (by decide) dX9_put_56 ?_
            refine vv_lushr (v := uL (w / 256)) X (uL_sh8 hw64) dX9_put_58 ?_
            refine vv_lstore (lv' := [(4, .long (uL (w / 256))), (6, .int (zI 0)), (0, .ref (ad 105)), (1, .long (uL u)), (3, .int (zI a3))]) X (by decide) rfl dX9_put_59 ?_
            refine vv_iinc (lv' := [(3, .int (zI (a3 + 1))), (4, .long (uL (w / 256))), (6, .int (zI 0)), (0, .ref (ad 105)), (1, .long (uL u))]) X 4 rfl (by decide) rfl dX9_put_61 ?_
            refine vv_goto (tgt := 8) X (by decide) dX9_put_64 ?_
            refine vv_sub (lv' := [(0, .ref (ad 105)), (1, .long (uL u)), (3, .int (zI (a3 + 1))), (4, .long (uL (w / 256))), (6, .int (zI 0))]) [3, 4, 0, 1, 2] rfl ?_
            exact ih_8 (k + 1) (w / 256) (a3 + 1) 0 (by omega) (by omega) (pw_s hw) (by omega) (fun _ => by omega) (by rw [hsz, sz_s (by omega) (by omega)]; omega) (Or.inl rfl) ⟨fun q => absurd q (by decide), fun q => by have := hok.mpr (hnx.mp q).1; omega⟩ (by omega)
          · skip
            refine vv_lload X 3 rfl dX9_put_30 ?_
            refine vv_ldc2 (v := 255) X (by decide +kernel) dX9_put_32 ?_
            refine vv_land X (uL_and (n := w)) dX9_put_35 ?_
            refine vv_l2i X (uL_i (n := (w % 256)) (by omega)) dX9_put_36 ?_
            refine vv_bipush (n := 33) X (by decide) dX9_put_37 ?_
            refine vv_bipush (n := 126) X (by decide) dX9_put_39 ?_
            refine vv_callSI (As := [.int (zI (((w % 256) : Nat) : Int)), .int (zI 33), .int (zI 126)]) (st := []) X 3 (c_X9_within l D cA had M (((w % 256) : Nat) : Int) 33 126 (by omega) (by omega) (by omega)) gX9_put_X9_within rfl (by decide +kernel) ⟨by decide, by decide⟩ (Nat.le_of_ble_eq_true rfl) ⟨by decide, by decide⟩ rfl rfl dX9_put_41 (fun z41 Mc41 q_41 => ?_)
            obtain ⟨e_z41, g_z41⟩ := q_41
            have g_z41 := g_z41.symm
            subst g_z41
            refine vv_if_eq (tgt := 51) X (by rw [e_z41]; split <;> omega) dX9_put_44 (by decide) (fun c_44 => ?_) (fun c_44 => ?_)
            · skip
              have hin : ¬ (33 ≤ w % 256 ∧ w % 256 ≤ 126) := fun q => by rw [if_pos (by omega)] at e_z41; omega
              refine vv_iconst (n := 0) X dX9_put_51 ?_
              refine vv_istore (lv' := [(6, .int (zI 0)), (0, .ref (ad 105)), (1, .long (uL u)), (3, .int (zI a3)), (4, .long (uL w))]) X (by decide) rfl dX9_put_52 ?_
              refine vv_lload X 4 rfl dX9_put_54 ?_
              refine vv_bipush (n := 8) X (by decide) dX9_put_56 ?_
              refine vv_lushr (v := uL (w / 256)) X (uL_sh8 hw64) dX9_put_58 ?_
              refine vv_lstore (lv' := [(4, .long (uL (w / 256))), (6, .int (zI 0)), (0, .ref (ad 105)), (1, .long (uL u)), (3, .int (zI a3))]) X (by decide) rfl dX9_put_59 ?_
              refine vv_iinc (lv' := [(3, .int (zI (a3 + 1))), (4, .long (uL (w / 256))), (6, .int (zI 0)), (0, .ref (ad 105)), (1, .long (uL u))]) X 4 rfl (by decide) rfl dX9_put_61 ?_
              refine vv_goto (tgt := 8) X (by decide) dX9_put_64 ?_
              refine vv_sub (lv' := [(0, .ref (ad 105)), (1, .long (uL u)), (3, .int (zI (a3 + 1))), (4, .long (uL (w / 256))), (6, .int (zI 0))]) [3, 4, 0, 1, 2] rfl ?_
              exact ih_8 (k + 1) (w / 256) (a3 + 1) 0 (by omega) (by omega) (pw_s hw) (by omega) (fun _ => by omega) (by rw [hsz, sz_s (by omega) (by omega)]; omega) (Or.inl rfl) ⟨fun q => absurd q (by decide), fun q => absurd (hnx.mp q).2 hin⟩ (by omega)
            · skip
              have hin : 33 ≤ w % 256 ∧ w % 256 ≤ 126 := by
                have q : 33 ≤ ((w % 256 : Nat) : Int) ∧ ((w % 256 : Nat) : Int) ≤ 126 := Classical.byContradiction fun q => by rw [if_neg q] at e_z41; omega
                omega
              refine vv_iconst (n := 1) X dX9_put_47 ?_
              refine vv_goto (tgt := 52) X (by decide) dX9_put_48 ?_
              refine vv_istore (lv' := [(6, .int (zI 1)), (0, .ref (ad 105)), (1, .long (uL u)), (3, .int (zI a3)), (4, .long (uL w))]) X (by decide) rfl dX9_put_52 ?_
              refine vv_lload X 4 rfl dX9_put_54 ?_
              refine vv_bipush (n := 8) X (by decide) dX9_put_56 ?_
              refine vv_lushr (v := uL (w / 256)) X (uL_sh8 hw64) dX9_put_58 ?_
              refine vv_lstore (lv' := [(4, .long (uL (w / 256))), (6, .int (zI 1)), (0, .ref (ad 105)), (1, .long (uL u)), (3, .int (zI a3))]) X (by decide) rfl dX9_put_59 ?_
              refine vv_iinc (lv' := [(3, .int (zI (a3 + 1))), (4, .long (uL (w / 256))), (6, .int (zI 1)), (0, .ref (ad 105)), (1, .long (uL u))]) X 4 rfl (by decide) rfl dX9_put_61 ?_
              refine vv_goto (tgt := 8) X (by decide) dX9_put_64 ?_
              refine vv_sub (lv' := [(0, .ref (ad 105)), (1, .long (uL u)), (3, .int (zI (a3 + 1))), (4, .long (uL (w / 256))), (6, .int (zI 1))]) [3, 4, 0, 1, 2] rfl ?_
              exact ih_8 (k + 1) (w / 256) (a3 + 1) 1 (by omega) (by omega) (pw_s hw) (by omega) (fun _ => by omega) (by rw [hsz, sz_s (by omega) (by omega)]; omega) (Or.inr rfl) ⟨fun _ => hnx.mpr ⟨hok.mp (by omega), hin⟩, fun _ => rfl⟩ (by omega)
  refine vv_sub (lv' := [(0, .ref (ad 105)), (1, .long (uL u)), (3, .int (zI 0)), (4, .long (uL u)), (6, .int (zI 1))]) [3, 4, 2, 1, 0] rfl ?_
  exact loop_8 _ 0 u 0 1 rfl (by omega) (by rw [Nat.pow_zero, Nat.div_one]) hu (fun q => by omega) (Nat.zero_add _).symm (Or.inr rfl) ⟨fun _ q hq => by omega, fun _ => rfl⟩ (Nat.lt_succ_self _)
