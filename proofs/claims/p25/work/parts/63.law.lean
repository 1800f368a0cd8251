set_option maxRecDepth 100000 in
set_option maxHeartbeats 4000000 in
theorem c_L_tidy (l : Launch) (D : va_G) {ad : Nat → Nat} (cA : Nat → ClassId) (had : adok ad) (M : Mem) (nv : Int) (hn : 0 ≤ nv ∧ nv ≤ 7) (hw : ∀ k : Nat, (k : Int) < nv → (0 ≤ M 110 k ∧ M 110 k ≤ 1000000) ∧ (0 ≤ M 111 k ∧ M 111 k ≤ 100)) : CtI l yL_tidy wsL_tidy 1 24 D ad cA [.int (zI nv), .ref (ad 110), .ref (ad 111), .ref (ad 112)] M (fun z M1 => ((okF (red (SF (M 110) (M 111) nv.toNat)) ∧ z = 1) ∨ (¬ okF (red (SF (M 110) (M 111) nv.toNat)) ∧ z = 0)) ∧ eqx M M1 [112] ∧ SplitOf (red (SF (M 110) (M 111) nv.toNat)) (M1 112 16) (fun i => M1 112 (2 * i)) (fun i => M1 112 (2 * i + 1)) ∧ (0 ≤ M1 112 16 ∧ M1 112 16 ≤ 7)) := by
  refine CtI.of (cc := cL_tidy) (maxL := 8) (ret := (some .boolean)) had (by decide) rfl (Nat.le_of_ble_eq_true rfl) ?_
  intro p e s m args below meth c X hm
  show VV p l e { frames := 1, cells := 0, slots := 0, locals := 24 } s m args below meth c 8 D ad cA (Afr ad s.heap.size) 0 0 (QI below args s D ad cA (fun z M1 => ((okF (red (SF (M 110) (M 111) nv.toNat)) ∧ z = 1) ∨ (¬ okF (red (SF (M 110) (M 111) nv.toNat)) ∧ z = 0)) ∧ eqx M M1 [112] ∧ SplitOf (red (SF (M 110) (M 111) nv.toNat)) (M1 112 16) (fun i => M1 112 (2 * i)) (fun i => M1 112 (2 * i + 1)) ∧ (0 ≤ M1 112 16 ∧ M1 112 16 ≤ 7))) M 0 [(0, .int (zI nv)), (1, .ref (ad 110)), (2, .ref (ad 111)), (3, .ref (ad 112))] []
  obtain ⟨F, hF⟩ : ∃ F : Nat → Int, F = (SF (M 110) (M 111) nv.toNat) := ⟨_, rfl⟩
  have hSb : ∀ t j : Nat, (t : Int) ≤ nv → 0 ≤ SF (M 110) (M 111) t j ∧ SF (M 110) (M 111) t j ≤ 7000000 := fun t j ht => by
    have q := sm_bm (f := fun i => if M 111 i = (j : Int) then M 110 i else 0) (a := 0) (b := 1000000) (n := t) (N := 7) (by omega) (by decide) (by decide) (fun i hi => by
      have := hw i (by omega)
      split <;> omega)
    unfold SF
    omega
  have hFb : ∀ j : Nat, 0 ≤ F j ∧ F j ≤ 7000000 := fun j => by rw [hF]; exact hSb nv.toNat j (by omega)
  have hFn : ∀ j : Nat, 0 ≤ F j := fun j => (hFb j).1
  have hcm : ∀ k : Nat, 0 ≤ cnt F k ∧ cnt F k ≤ 7 := fun k => by
    have q1 := cnt_b F k
    have q2 := cnt_SF (w := M 110) (p := M 111) nv.toNat k
    rw [← hF] at q2
    omega
  refine vv_iconst (n := 0) X dL_tidy_0 ?_
  refine vv_istore (lv' := [(4, .int (zI 0)), (0, .int (zI nv)), (1, .ref (ad 110)), (2, .ref (ad 111)), (3, .ref (ad 112))]) X (by decide) rfl dL_tidy_1 ?_
  refine vv_iconst (n := 0) X dL_tidy_3 ?_
  refine vv_istore (lv' := [(5, .int (zI 0)), (4, .int (zI 0)), (0, .int (zI nv)), (1, .ref (ad 110)), (2, .ref (ad 111)), (3, .ref (ad 112))]) X (by decide) rfl dL_tidy_4 ?_
  have loop_6 : ∀ (n : Nat) (M_6 : Mem) (k : Nat) (a4 : Int) (a5 : Int), a5 = (k : Int) → k ≤ 101 → eqx M M_6 [112] → SplitTo F k a4 (fun i => M_6 112 (2 * i)) (fun i => M_6 112 (2 * i + 1)) → 101 - k < n → VV p l e { frames := 1, cells := 0, slots := 0, locals := 24 } s m args below meth c 8 D ad cA (Afr ad s.heap.size) 0 0 (QI below args s D ad cA (fun z M1 => ((okF (red (SF (M 110) (M 111) nv.toNat)) ∧ z = 1) ∨ (¬ okF (red (SF (M 110) (M 111) nv.toNat)) ∧ z = 0)) ∧ eqx M M1 [112] ∧ SplitOf (red (SF (M 110) (M 111) nv.toNat)) (M1 112 16) (fun i => M1 112 (2 * i)) (fun i => M1 112 (2 * i + 1)) ∧ (0 ≤ M1 112 16 ∧ M1 112 16 ≤ 7))) M_6 6 [(0, .int (zI nv)), (1, .ref (ad 110)), (2, .ref (ad 111)), (3, .ref (ad 112)), (4, .int (zI a4)), (5, .int (zI a5))] [] := by
    intro n
    induction n with
    | zero => intro M_6 k a4 a5 h5 hk hE hS hn; exact absurd hn (Nat.not_lt_zero _)
    | succ n ih_6 =>
      intro M_6 k a4 a5 h5 hk hE hS hn
      have e_6_110 : M_6 110 = M 110 := hE 110 (by decide)
      have e_6_111 : M_6 111 = M 111 := hE 111 (by decide)
      have hm4 : 0 ≤ a4 ∧ a4 ≤ 7 := by rw [hS.1]; exact hcm k
      have i1 : (2 * a4).toNat = 2 * a4.toNat := by omega
      have i2 : (2 * a4 + 1).toNat = 2 * a4.toNat + 1 := by omega
      refine vv_iload X 5 rfl dL_tidy_6 ?_
      refine vv_bipush (n := 100) X (by decide) dL_tidy_8 ?_
      refine vv_icmp_gt (tgt := 88) X (by omega) (by omega) dL_tidy_10 (by decide) (fun c_10 => ?_) (fun c_10 => ?_)
      · skip
        have ek : k = 101 := by omega
        subst ek
        have hS2 : SplitOf F a4 (fun i => M_6 112 (2 * i)) (fun i => M_6 112 (2 * i + 1)) := SplitTo_end hS
        have hWb : ∀ j : Nat, (j : Int) < a4 → 0 < M_6 112 (2 * j) ∧ M_6 112 (2 * j) ≤ 7000000 := fun j hj => by
          obtain ⟨q1, q2, q3, q4⟩ := hS2.2 j hj
          refine ⟨q3, ?_⟩
          have q5 : M_6 112 (2 * j) = F (M_6 112 (2 * j + 1)).toNat := q2
          rw [q5]
          exact (hFb _).2
        refine vv_iconst (n := 0) X dL_tidy_88 ?_
        refine vv_istore (lv' := [(5, .int (zI 0)), (0, .int (zI nv)), (1, .ref (ad 110)), (2, .ref (ad 111)), (3, .ref (ad 112)), (4, .int (zI a4))]) X (by decide) rfl dL_tidy_89 ?_
        refine vv_iconst (n := 0) X dL_tidy_91 ?_
        refine vv_istore (lv' := [(6, .int (zI 0)), (5, .int (zI 0)), (0, .int (zI nv)), (1, .ref (ad 110)), (2, .ref (ad 111)), (3, .ref (ad 112)), (4, .int (zI a4))]) X (by decide) rfl dL_tidy_92 ?_
        have loop_94 : ∀ (n : Nat)  (k2 : Nat) (b5 : Int) (b6 : Int), b6 = (k2 : Int) → (k2 : Int) ≤ a4 → b5 = gls (fun i => M_6 112 (2 * i)) k2 → (a4 - b6).toNat < n → VV p l e { frames := 1, cells := 0, slots := 0, locals := 24 } s m args below meth c 8 D ad cA (Afr ad s.heap.size) 0 0 (QI below args s D ad cA (fun z M1 => ((okF (red (SF (M 110) (M 111) nv.toNat)) ∧ z = 1) ∨ (¬ okF (red (SF (M 110) (M 111) nv.toNat)) ∧ z = 0)) ∧ eqx M M1 [112] ∧ SplitOf (red (SF (M 110) (M 111) nv.toNat)) (M1 112 16) (fun i => M1 112 (2 * i)) (fun i => M1 112 (2 * i + 1)) ∧ (0 ≤ M1 112 16 ∧ M1 112 16 ≤ 7))) M_6 94 [(0, .int (zI nv)), (1, .ref (ad 110)), (2, .ref (ad 111)), (3, .ref (ad 112)), (4, .int (zI a4)), (5, .int (zI b5)), (6, .int (zI b6))] [] := by
          intro n
          induction n with
          | zero => intro k2 b5 b6 g6 gk g5 hn; exact absurd hn (Nat.not_lt_zero _)
          | succ n ih_94 =>
            intro k2 b5 b6 g6 gk g5 hn
            have i3 : (2 * b6).toNat = 2 * k2 := by omega
            have gb1 := gls_nn (fun i => M_6 112 (2 * i)) k2
            have gb2 := gls_b (w := (fun i => M_6 112 (2 * i))) (B := 7000000) (by decide) (n := k2) (fun j hj => hWb j (by omega))
            have hwk : (k2 : Int) < a4 → 0 < M_6 112 (2 * k2) ∧ M_6 112 (2 * k2) ≤ 7000000 := hWb k2
            refine vv_iload X 6 rfl dL_tidy_94 ?_
            refine vv_iload X 4 rfl dL_tidy_96 ?_
            refine vv_icmp_ge (tgt := 120) X (by omega) (by omega) dL_tidy_98 (by decide) (fun c_98 => ?_) (fun c_98 => ?_)
            · skip
              have ek2 : a4.toNat = k2 := by omega
              have h1p : 0 < a4 → 0 < b5 := fun q => by
                have hd : b5 ∣ M_6 112 (2 * 0) := by rw [g5]; exact gls_dvd (w := (fun i => M_6 112 (2 * i))) (k := 0) (by omega)
                have hp0 := hWb 0 (by omega)
                rcases (show b5 = 0 ∨ 0 < b5 by omega) with w | w
                · rw [w] at hd
                  have := Int.zero_dvd.mp hd
                  omega
                · exact w
              refine vv_iload X 4 rfl dL_tidy_120 ?_
              refine vv_bipush (n := 7) X (by decide) dL_tidy_122 ?_
              refine vv_icmp_ge (tgt := 131) X (by omega) (by omega) dL_tidy_124 (by decide) (fun c_124 => ?_) (fun c_124 => ?_)
              · skip
                refine vv_iconst (n := 0) X dL_tidy_131 ?_
                refine vv_istore (lv' := [(6, .int (zI 0)), (0, .int (zI nv)), (1, .ref (ad 110)), (2, .ref (ad 111)), (3, .ref (ad 112)), (4, .int (zI a4)), (5, .int (zI b5))]) X (by decide) rfl dL_tidy_132 ?_
                refine vv_iconst (n := 0) X dL_tidy_134 ?_
                refine vv_istore (lv' := [(7, .int (zI 0)), (6, .int (zI 0)), (0, .int (zI nv)), (1, .ref (ad 110)), (2, .ref (ad 111)), (3, .ref (ad 112)), (4, .int (zI a4)), (5, .int (zI b5))]) X (by decide) rfl dL_tidy_135 ?_
                have loop_137 : ∀ (n : Nat) (M_137 : Mem) (k3 : Nat) (d6 : Int) (d7 : Int), d7 = (k3 : Int) → (k3 : Int) ≤ a4 → (d6 = 0 ∨ d6 = 1) → (d6 = 1 ↔ a4 ≤ 6 ∧ ∀ j : Nat, j < k3 → (M_6 112 (2 * j)).tdiv b5 ≤ 999) → eqx M M_137 [112] → (∀ j : Nat, M_137 112 (2 * j) = if j < k3 then (M_6 112 (2 * j)).tdiv b5 else M_6 112 (2 * j)) → (∀ j : Nat, M_137 112 (2 * j + 1) = M_6 112 (2 * j + 1)) → (a4 - d7).toNat < n → VV p l e { frames := 1, cells := 0, slots := 0, locals := 24 } s m args below meth c 8 D ad cA (Afr ad s.heap.size) 0 0 (QI below args s D ad cA (fun z M1 => ((okF (red (SF (M 110) (M 111) nv.toNat)) ∧ z = 1) ∨ (¬ okF (red (SF (M 110) (M 111) nv.toNat)) ∧ z = 0)) ∧ eqx M M1 [112] ∧ SplitOf (red (SF (M 110) (M 111) nv.toNat)) (M1 112 16) (fun i => M1 112 (2 * i)) (fun i => M1 112 (2 * i + 1)) ∧ (0 ≤ M1 112 16 ∧ M1 112 16 ≤ 7))) M_137 137 [(0, .int (zI nv)), (1, .ref (ad 110)), (2, .ref (ad 111)), (3, .ref (ad 112)), (4, .int (zI a4)), (5, .int (zI b5)), (6, .int (zI d6)), (7, .int (zI d7))] [] := by
                  intro n
                  induction n with
                  | zero => intro M_137 k3 d6 d7 l7 lk l6 lb lE lj lo hn; exact absurd hn (Nat.not_lt_zero _)
                  | succ n ih_137 =>
                    intro M_137 k3 d6 d7 l7 lk l6 lb lE lj lo hn
                    have i4 : (2 * d7).toNat = 2 * k3 := by omega
                    have lz : M_137 112 (2 * k3) = M_6 112 (2 * k3) := by rw [lj, if_neg (by omega)]
                    have lpk : (k3 : Int) < a4 → 0 < M_6 112 (2 * k3) ∧ M_6 112 (2 * k3) ≤ 7000000 := hWb k3
                    have ltd : (k3 : Int) < a4 → 0 ≤ (M_6 112 (2 * k3)).tdiv b5 ∧ (M_6 112 (2 * k3)).tdiv b5 ≤ 7000000 := fun q => tdiv_b (by have := lpk q; omega) (by omega)
                    have lnx : (d6 = 1 ∧ (M_6 112 (2 * k3)).tdiv b5 ≤ 999) ↔ (a4 ≤ 6 ∧ ∀ j : Nat, j < k3 + 1 → (M_6 112 (2 * j)).tdiv b5 ≤ 999) := by
                      rw [lb]
                      constructor
                      · rintro ⟨⟨q1, q2⟩, q3⟩
                        refine ⟨q1, fun j hj => ?_⟩
                        rcases (show j < k3 ∨ j = k3 by omega) with q | q
                        · exact q2 j q
                        · rw [q]; exact q3
                      · rintro ⟨q1, q2⟩
                        exact ⟨⟨q1, fun j hj => q2 j (by omega)⟩, q2 k3 (by omega)⟩
                    refine vv_iload X 7 rfl dL_tidy_137 ?_
                    refine vv_iload X 4 rfl dL_tidy_139 ?_
                    refine vv_icmp_ge (tgt := 185) X (by omega) (by omega) dL_tidy_141 (by decide) (fun c_141 => ?_) (fun c_141 => ?_)
                    · skip
                      refine vv_aload_n X 3 rfl rfl dL_tidy_185 ?_
                      refine vv_bipush (n := 16) X (by decide) dL_tidy_186 ?_
                      refine vv_iload X 4 rfl dL_tidy_188 ?_
                      refine vv_iast (ix := 16) X (by decide) sh_112 (by decide) (by omega) (rfl) dL_tidy_190 ?_
                      refine vv_iload X 6 rfl dL_tidy_191 ?_
                      exact vv_zret X hm (l6) (by
                        rw [← hF]
                        have e2 : (k3 : Int) = a4 := by omega
                        have eW : ∀ j : Nat, (j : Int) < a4 → up2 M_137 112 16 a4 112 (2 * j) = (M_6 112 (2 * j)).tdiv (gls (fun i => M_6 112 (2 * i)) a4.toNat) ∧ up2 M_137 112 16 a4 112 (2 * j + 1) = M_6 112 (2 * j + 1) := fun j hj => by
                          rw [up2_m _ _ _ (by omega), up2_m _ _ _ (by omega), lj j, lo j, if_pos (by omega), ek2, ← g5]
                          exact ⟨rfl, rfl⟩
                        have hR : SplitOf (red F) a4 (fun i => up2 M_137 112 16 a4 112 (2 * i)) (fun i => up2 M_137 112 16 a4 112 (2 * i + 1)) := SplitOf_red hS2 hFn eW
                        have ho := okF_list hR (red_nn hFn)
                        have hb : okF (red F) ↔ d6 = 1 := by
                          rw [ho, lb]
                          constructor
                          · rintro ⟨q1, q2⟩
                            refine ⟨q1, fun j hj => ?_⟩
                            have q := q2 j (by omega)
                            rw [(eW j (by omega)).1, ek2, ← g5] at q
                            exact q
                          · rintro ⟨q1, q2⟩
                            refine ⟨q1, fun j hj => ?_⟩
                            show up2 M_137 112 16 a4 112 (2 * j) ≤ 999
                            rw [(eW j (by omega)).1, ek2, ← g5]
                            exact q2 j (by omega)
                        refine ⟨?_, eqx_up _ _ lE (by decide), by rw [up2_s]; exact hR, by rw [up2_s]; omega⟩
                        rcases l6 with q | q
                        · exact Or.inr ⟨fun w => by have := hb.mp w; omega, q⟩
                        · exact Or.inl ⟨hb.mpr q, q⟩) dL_tidy_193
                    · skip
                      refine vv_aload_n X 3 rfl rfl dL_tidy_144 ?_
                      refine vv_iconst (n := 2) X dL_tidy_145 ?_
                      refine vv_iload X 7 rfl dL_tidy_146 ?_
                      refine vv_imul X dL_tidy_148 ?_
                      refine vv_dup2 X rfl rfl dL_tidy_149 ?_
                      refine vv_iald (z := (M_6 112 (2 * k3))) X (by decide) sh_112 (by decide) (by omega) (by rw [i4]; exact lz) dL_tidy_150 ?_
                      refine vv_iload X 5 rfl dL_tidy_151 ?_
                      refine vv_idiv X (by first | (have := lpk (by omega); omega) | (have := h1p (by omega); omega)) (by first | (have := lpk (by omega); omega) | (have := h1p (by omega); omega)) (by first | (have := lpk (by omega); omega) | (have := h1p (by omega); omega)) dL_tidy_153 ?_
                      refine vv_iast (ix := (2 * k3)) X (by decide) sh_112 (by decide) (by omega) (i4) dL_tidy_154 ?_
                      refine vv_iload X 6 rfl dL_tidy_155 ?_
                      refine vv_if_eq (tgt := 176) X (by omega) dL_tidy_157 (by decide) (fun c_157 => ?_) (fun c_157 => ?_)
                      · skip
                        refine vv_iconst (n := 0) X dL_tidy_176 ?_
                        refine vv_istore (lv' := [(6, .int (zI 0)), (0, .int (zI nv)), (1, .ref (ad 110)), (2, .ref (ad 111)), (3, .ref (ad 112)), (4, .int (zI a4)), (5, .int (zI b5)), (7, .int (zI d7))]) X (by decide) rfl dL_tidy_177 ?_
                        refine vv_iinc (lv' := [(7, .int (zI (d7 + 1))), (6, .int (zI 0)), (0, .int (zI nv)), (1, .ref (ad 110)), (2, .ref (ad 111)), (3, .ref (ad 112)), (4, .int (zI a4)), (5, .int (zI b5))]) X 7 rfl (by decide) rfl dL_tidy_179 ?_
                        refine vv_goto (tgt := 137) X (by decide) dL_tidy_182 ?_
                        refine vv_sub (lv' := [(0, .int (zI nv)), (1, .ref (ad 110)), (2, .ref (ad 111)), (3, .ref (ad 112)), (4, .int (zI a4)), (5, .int (zI b5)), (6, .int (zI 0)), (7, .int (zI (d7 + 1)))]) [2, 3, 4, 5, 6, 7, 1, 0] rfl ?_
                        exact ih_137 (up2 M_137 112 (2 * k3) (Int.tdiv (M_6 112 (2 * k3)) b5)) (k3 + 1) 0 (d7 + 1) (by omega) (by omega) (by omega) (by rw [← lnx]; omega) (eqx_up _ _ lE (by decide)) (fun j => by
                          show uz (M_137 112) (2 * k3) _ (2 * j) = _
                          unfold uz
                          by_cases q : j = k3
                          · rw [if_pos (by omega), if_pos (by omega), q]
                          · rw [if_neg (by omega), lj j]
                            by_cases q2 : j < k3
                            · rw [if_pos q2, if_pos (by omega)]
                            · rw [if_neg q2, if_neg (by omega)]) (fun j => by
                          show uz (M_137 112) (2 * k3) _ (2 * j + 1) = _
                          unfold uz
                          rw [if_neg (by omega)]
                          exact lo j) (by omega)
                      · skip
                        refine vv_aload_n X 3 rfl rfl dL_tidy_160 ?_
                        refine vv_iconst (n := 2) X dL_tidy_161 ?_
                        refine vv_iload X 7 rfl dL_tidy_162 ?_
                        refine vv_imul X dL_tidy_164 ?_
                        refine vv_iald (z := ((M_6 112 (2 * k3)).tdiv b5)) X (by decide) sh_112 (by decide) (by omega) (by rw [i4]; exact up2_s _ _ _ _) dL_tidy_165 ?_
                        refine vv_sipush (n := 1000) X (by decide) dL_tidy_166 ?_
                        refine vv_icmp_ge (tgt := 176) X (by have := ltd (by omega); omega) (by have := ltd (by omega); omega) dL_tidy_169 (by decide) (fun c_169 => ?_) (fun c_169 => ?_)
                        · skip
                          refine vv_iconst (n := 0) X dL_tidy_176 ?_
                          refine vv_istore (lv' := [(6, .int (zI 0)), (0, .int (zI nv)), (1, .ref (ad 110)), (2, .ref (ad 111)), (3, .ref (ad 112)), (4, .int (zI a4)), (5, .int (zI b5)), (7, .int (zI d7))]) X (by decide) rfl dL_tidy_177 ?_
                          refine vv_iinc (lv' := [(7, .int (zI (d7 + 1))), (6, .int (zI 0)), (0, .int (zI nv)), (1, .ref (ad 110)), (2, .ref (ad 111)), (3, .ref (ad 112)), (4, .int (zI a4)), (5, .int (zI b5))]) X 7 rfl (by decide) rfl dL_tidy_179 ?_
                          refine vv_goto (tgt := 137) X (by decide) dL_tidy_182 ?_
                          refine vv_sub (lv' := [(0, .int (zI nv)), (1, .ref (ad 110)), (2, .ref (ad 111)), (3, .ref (ad 112)), (4, .int (zI a4)), (5, .int (zI b5)), (6, .int (zI 0)), (7, .int (zI (d7 + 1)))]) [2, 3, 4, 5, 6, 7, 1, 0] rfl ?_
                          exact ih_137 (up2 M_137 112 (2 * k3) (Int.tdiv (M_6 112 (2 * k3)) b5)) (k3 + 1) 0 (d7 + 1) (by omega) (by omega) (by omega) (by rw [← lnx]; omega) (eqx_up _ _ lE (by decide)) (fun j => by
                            show uz (M_137 112) (2 * k3) _ (2 * j) = _
                            unfold uz
                            by_cases q : j = k3
                            · rw [if_pos (by omega), if_pos (by omega), q]
                            · rw [if_neg (by omega), lj j]
                              by_cases q2 : j < k3
                              · rw [if_pos q2, if_pos (by omega)]
                              · rw [if_neg q2, if_neg (by omega)]) (fun j => by
                            show uz (M_137 112) (2 * k3) _ (2 * j + 1) = _
                            unfold uz
                            rw [if_neg (by omega)]
                            exact lo j) (by omega)
                        · skip
                          refine vv_iconst (n := 1) X dL_tidy_172 ?_
                          refine vv_goto (tgt := 177) X (by decide) dL_tidy_173 ?_
                          refine vv_istore (lv' := [(6, .int (zI 1)), (0, .int (zI nv)), (1, .ref (ad 110)), (2, .ref (ad 111)), (3, .ref (ad 112)), (4, .int (zI a4)), (5, .int (zI b5)), (7, .int (zI d7))]) X (by decide) rfl dL_tidy_177 ?_
                          refine vv_iinc (lv' := [(7, .int (zI (d7 + 1))), (6, .int (zI 1)), (0, .int (zI nv)), (1, .ref (ad 110)), (2, .ref (ad 111)), (3, .ref (ad 112)), (4, .int (zI a4)), (5, .int (zI b5))]) X 7 rfl (by decide) rfl dL_tidy_179 ?_
                          refine vv_goto (tgt := 137) X (by decide) dL_tidy_182 ?_
                          refine vv_sub (lv' := [(0, .int (zI nv)), (1, .ref (ad 110)), (2, .ref (ad 111)), (3, .ref (ad 112)), (4, .int (zI a4)), (5, .int (zI b5)), (6, .int (zI 1)), (7, .int (zI (d7 + 1)))]) [2, 3, 4, 5, 6, 7, 1, 0] rfl ?_
                          exact ih_137 (up2 M_137 112 (2 * k3) (Int.tdiv (M_6 112 (2 * k3)) b5)) (k3 + 1) 1 (d7 + 1) (by omega) (by omega) (by omega) (by rw [← lnx]; omega) (eqx_up _ _ lE (by decide)) (fun j => by
                            show uz (M_137 112) (2 * k3) _ (2 * j) = _
                            unfold uz
                            by_cases q : j = k3
                            · rw [if_pos (by omega), if_pos (by omega), q]
                            · rw [if_neg (by omega), lj j]
                              by_cases q2 : j < k3
                              · rw [if_pos q2, if_pos (by omega)]
                              · rw [if_neg q2, if_neg (by omega)]) (fun j => by
                            show uz (M_137 112) (2 * k3) _ (2 * j + 1) = _
                            unfold uz
                            rw [if_neg (by omega)]
                            exact lo j) (by omega)
                refine vv_sub (lv' := [(0, .int (zI nv)), (1, .ref (ad 110)), (2, .ref (ad 111)), (3, .ref (ad 112)), (4, .int (zI a4)), (5, .int (zI b5)), (6, .int (zI 0)), (7, .int (zI 0))]) [2, 3, 4, 5, 6, 7, 1, 0] rfl ?_
                exact loop_137 _ M_6 0 0 0 rfl (by omega) (by omega) (⟨fun q => absurd q (by decide), fun q => absurd q.1 (by omega)⟩) hE (fun j => by rw [if_neg (by omega)]) (fun j => rfl) (Nat.lt_succ_self _)
              · skip
                refine vv_iconst (n := 1) X dL_tidy_127 ?_
                refine vv_goto (tgt := 132) X (by decide) dL_tidy_128 ?_
                refine vv_istore (lv' := [(6, .int (zI 1)), (0, .int (zI nv)), (1, .ref (ad 110)), (2, .ref (ad 111)), (3, .ref (ad 112)), (4, .int (zI a4)), (5, .int (zI b5))]) X (by decide) rfl dL_tidy_132 ?_
                refine vv_iconst (n := 0) X dL_tidy_134 ?_
                refine vv_istore (lv' := [(7, .int (zI 0)), (6, .int (zI 1)), (0, .int (zI nv)), (1, .ref (ad 110)), (2, .ref (ad 111)), (3, .ref (ad 112)), (4, .int (zI a4)), (5, .int (zI b5))]) X (by decide) rfl dL_tidy_135 ?_
                have loop_137 : ∀ (n : Nat) (M_137 : Mem) (k3 : Nat) (d6 : Int) (d7 : Int), d7 = (k3 : Int) → (k3 : Int) ≤ a4 → (d6 = 0 ∨ d6 = 1) → (d6 = 1 ↔ a4 ≤ 6 ∧ ∀ j : Nat, j < k3 → (M_6 112 (2 * j)).tdiv b5 ≤ 999) → eqx M M_137 [112] → (∀ j : Nat, M_137 112 (2 * j) = if j < k3 then (M_6 112 (2 * j)).tdiv b5 else M_6 112 (2 * j)) → (∀ j : Nat, M_137 112 (2 * j + 1) = M_6 112 (2 * j + 1)) → (a4 - d7).toNat < n → VV p l e { frames := 1, cells := 0, slots := 0, locals := 24 } s m args below meth c 8 D ad cA (Afr ad s.heap.size) 0 0 (QI below args s D ad cA (fun z M1 => ((okF (red (SF (M 110) (M 111) nv.toNat)) ∧ z = 1) ∨ (¬ okF (red (SF (M 110) (M 111) nv.toNat)) ∧ z = 0)) ∧ eqx M M1 [112] ∧ SplitOf (red (SF (M 110) (M 111) nv.toNat)) (M1 112 16) (fun i => M1 112 (2 * i)) (fun i => M1 112 (2 * i + 1)) ∧ (0 ≤ M1 112 16 ∧ M1 112 16 ≤ 7))) M_137 137 [(0, .int (zI nv)), (1, .ref (ad 110)), (2, .ref (ad 111)), (3, .ref (ad 112)), (4, .int (zI a4)), (5, .int (zI b5)), (6, .int (zI d6)), (7, .int (zI d7))] [] := by
                  intro n
                  induction n with
                  | zero => intro M_137 k3 d6 d7 l7 lk l6 lb lE lj lo hn; exact absurd hn (Nat.not_lt_zero _)
                  | succ n ih_137 =>
                    intro M_137 k3 d6 d7 l7 lk l6 lb lE lj lo hn
                    have i4 : (2 * d7).toNat = 2 * k3 := by omega
                    have lz : M_137 112 (2 * k3) = M_6 112 (2 * k3) := by rw [lj, if_neg (by omega)]
                    have lpk : (k3 : Int) < a4 → 0 < M_6 112 (2 * k3) ∧ M_6 112 (2 * k3) ≤ 7000000 := hWb k3
                    have ltd : (k3 : Int) < a4 → 0 ≤ (M_6 112 (2 * k3)).tdiv b5 ∧ (M_6 112 (2 * k3)).tdiv b5 ≤ 7000000 := fun q => tdiv_b (by have := lpk q; omega) (by omega)
                    have lnx : (d6 = 1 ∧ (M_6 112 (2 * k3)).tdiv b5 ≤ 999) ↔ (a4 ≤ 6 ∧ ∀ j : Nat, j < k3 + 1 → (M_6 112 (2 * j)).tdiv b5 ≤ 999) := by
                      rw [lb]
                      constructor
                      · rintro ⟨⟨q1, q2⟩, q3⟩
                        refine ⟨q1, fun j hj => ?_⟩
                        rcases (show j < k3 ∨ j = k3 by omega) with q | q
                        · exact q2 j q
                        · rw [q]; exact q3
                      · rintro ⟨q1, q2⟩
                        exact ⟨⟨q1, fun j hj => q2 j (by omega)⟩, q2 k3 (by omega)⟩
                    refine vv_iload X 7 rfl dL_tidy_137 ?_
                    refine vv_iload X 4 rfl dL_tidy_139 ?_
                    refine vv_icmp_ge (tgt := 185) X (by omega) (by omega) dL_tidy_141 (by decide) (fun c_141 => ?_) (fun c_141 => ?_)
                    · skip
                      refine vv_aload_n X 3 rfl rfl dL_tidy_185 ?_
                      refine vv_bipush (n := 16) X (by decide) dL_tidy_186 ?_
                      refine vv_iload X 4 rfl dL_tidy_188 ?_
                      refine vv_iast (ix := 16) X (by decide) sh_112 (by decide) (by omega) (rfl) dL_tidy_190 ?_
                      refine vv_iload X 6 rfl dL_tidy_191 ?_
                      exact vv_zret X hm (l6) (by
                        rw [← hF]
                        have e2 : (k3 : Int) = a4 := by omega
                        have eW : ∀ j : Nat, (j : Int) < a4 → up2 M_137 112 16 a4 112 (2 * j) = (M_6 112 (2 * j)).tdiv (gls (fun i => M_6 112 (2 * i)) a4.toNat) ∧ up2 M_137 112 16 a4 112 (2 * j + 1) = M_6 112 (2 * j + 1) := fun j hj => by
                          rw [up2_m _ _ _ (by omega), up2_m _ _ _ (by omega), lj j, lo j, if_pos (by omega), ek2, ← g5]
                          exact ⟨rfl, rfl⟩
                        have hR : SplitOf (red F) a4 (fun i => up2 M_137 112 16 a4 112 (2 * i)) (fun i => up2 M_137 112 16 a4 112 (2 * i + 1)) := SplitOf_red hS2 hFn eW
                        have ho := okF_list hR (red_nn hFn)
                        have hb : okF (red F) ↔ d6 = 1 := by
                          rw [ho, lb]
                          constructor
                          · rintro ⟨q1, q2⟩
                            refine ⟨q1, fun j hj => ?_⟩
                            have q := q2 j (by omega)
                            rw [(eW j (by omega)).1, ek2, ← g5] at q
                            exact q
                          · rintro ⟨q1, q2⟩
                            refine ⟨q1, fun j hj => ?_⟩
                            show up2 M_137 112 16 a4 112 (2 * j) ≤ 999
                            rw [(eW j (by omega)).1, ek2, ← g5]
                            exact q2 j (by omega)
                        refine ⟨?_, eqx_up _ _ lE (by decide), by rw [up2_s]; exact hR, by rw [up2_s]; omega⟩
                        rcases l6 with q | q
                        · exact Or.inr ⟨fun w => by have := hb.mp w; omega, q⟩
                        · exact Or.inl ⟨hb.mpr q, q⟩) dL_tidy_193
                    · skip
                      refine vv_aload_n X 3 rfl rfl dL_tidy_144 ?_
                      refine vv_iconst (n := 2) X dL_tidy_145 ?_
                      refine vv_iload X 7 rfl dL_tidy_146 ?_
                      refine vv_imul X dL_tidy_148 ?_
                      refine vv_dup2 X rfl rfl dL_tidy_149 ?_
                      refine vv_iald (z := (M_6 112 (2 * k3))) X (by decide) sh_112 (by decide) (by omega) (by rw [i4]; exact lz) dL_tidy_150 ?_
                      refine vv_iload X 5 rfl dL_tidy_151 ?_
                      refine vv_idiv X (by first | (have := lpk (by omega); omega) | (have := h1p (by omega); omega)) (by first | (have := lpk (by omega); omega) | (have := h1p (by omega); omega)) (by first | (have := lpk (by omega); omega) | (have := h1p (by omega); omega)) dL_tidy_153 ?_
                      refine vv_iast (ix := (2 * k3)) X (by decide) sh_112 (by decide) (by omega) (i4) dL_tidy_154 ?_
                      refine vv_iload X 6 rfl dL_tidy_155 ?_
                      refine vv_if_eq (tgt := 176) X (by omega) dL_tidy_157 (by decide) (fun c_157 => ?_) (fun c_157 => ?_)
                      · skip
                        refine vv_iconst (n := 0) X dL_tidy_176 ?_
                        refine vv_istore (lv' := [(6, .int (zI 0)), (0, .int (zI nv)), (1, .ref (ad 110)), (2, .ref (ad 111)), (3, .ref (ad 112)), (4, .int (zI a4)), (5, .int (zI b5)), (7, .int (zI d7))]) X (by decide) rfl dL_tidy_177 ?_
                        refine vv_iinc (lv' := [(7, .int (zI (d7 + 1))), (6, .int (zI 0)), (0, .int (zI nv)), (1, .ref (ad 110)), (2, .ref (ad 111)), (3, .ref (ad 112)), (4, .int (zI a4)), (5, .int (zI b5))]) X 7 rfl (by decide) rfl dL_tidy_179 ?_
                        refine vv_goto (tgt := 137) X (by decide) dL_tidy_182 ?_
                        refine vv_sub (lv' := [(0, .int (zI nv)), (1, .ref (ad 110)), (2, .ref (ad 111)), (3, .ref (ad 112)), (4, .int (zI a4)), (5, .int (zI b5)), (6, .int (zI 0)), (7, .int (zI (d7 + 1)))]) [2, 3, 4, 5, 6, 7, 1, 0] rfl ?_
                        exact ih_137 (up2 M_137 112 (2 * k3) (Int.tdiv (M_6 112 (2 * k3)) b5)) (k3 + 1) 0 (d7 + 1) (by omega) (by omega) (by omega) (by rw [← lnx]; omega) (eqx_up _ _ lE (by decide)) (fun j => by
                          show uz (M_137 112) (2 * k3) _ (2 * j) = _
                          unfold uz
                          by_cases q : j = k3
                          · rw [if_pos (by omega), if_pos (by omega), q]
                          · rw [if_neg (by omega), lj j]
                            by_cases q2 : j < k3
                            · rw [if_pos q2, if_pos (by omega)]
                            · rw [if_neg q2, if_neg (by omega)]) (fun j => by
                          show uz (M_137 112) (2 * k3) _ (2 * j + 1) = _
                          unfold uz
                          rw [if_neg (by omega)]
                          exact lo j) (by omega)
                      · skip
                        refine vv_aload_n X 3 rfl rfl dL_tidy_160 ?_
                        refine vv_iconst (n := 2) X dL_tidy_161 ?_
                        refine vv_iload X 7 rfl dL_tidy_162 ?_
                        refine vv_imul X dL_tidy_164 ?_
                        refine vv_iald (z := ((M_6 112 (2 * k3)).tdiv b5)) X (by decide) sh_112 (by decide) (by omega) (by rw [i4]; exact up2_s _ _ _ _) dL_tidy_165 ?_
                        refine vv_sipush (n := 1000) X (by decide) dL_tidy_166 ?_
                        refine vv_icmp_ge (tgt := 176) X (by have := ltd (by omega); omega) (by have := ltd (by omega); omega) dL_tidy_169 (by decide) (fun c_169 => ?_) (fun c_169 => ?_)
                        · skip
                          refine vv_iconst (n := 0) X dL_tidy_176 ?_
                          refine vv_istore (lv' := [(6, .int (zI 0)), (0, .int (zI nv)), (1, .ref (ad 110)), (2, .ref (ad 111)), (3, .ref (ad 112)), (4, .int (zI a4)), (5, .int (zI b5)), (7, .int (zI d7))]) X (by decide) rfl dL_tidy_177 ?_
                          refine vv_iinc (lv' := [(7, .int (zI (d7 + 1))), (6, .int (zI 0)), (0, .int (zI nv)), (1, .ref (ad 110)), (2, .ref (ad 111)), (3, .ref (ad 112)), (4, .int (zI a4)), (5, .int (zI b5))]) X 7 rfl (by decide) rfl dL_tidy_179 ?_
                          refine vv_goto (tgt := 137) X (by decide) dL_tidy_182 ?_
                          refine vv_sub (lv' := [(0, .int (zI nv)), (1, .ref (ad 110)), (2, .ref (ad 111)), (3, .ref (ad 112)), (4, .int (zI a4)), (5, .int (zI b5)), (6, .int (zI 0)), (7, .int (zI (d7 + 1)))]) [2, 3, 4, 5, 6, 7, 1, 0] rfl ?_
                          exact ih_137 (up2 M_137 112 (2 * k3) (Int.tdiv (M_6 112 (2 * k3)) b5)) (k3 + 1) 0 (d7 + 1) (by omega) (by omega) (by omega) (by rw [← lnx]; omega) (eqx_up _ _ lE (by decide)) (fun j => by
                            show uz (M_137 112) (2 * k3) _ (2 * j) = _
                            unfold uz
                            by_cases q : j = k3
                            · rw [if_pos (by omega), if_pos (by omega), q]
                            · rw [if_neg (by omega), lj j]
                              by_cases q2 : j < k3
                              · rw [if_pos q2, if_pos (by omega)]
                              · rw [if_neg q2, if_neg (by omega)]) (fun j => by
                            show uz (M_137 112) (2 * k3) _ (2 * j + 1) = _
                            unfold uz
                            rw [if_neg (by omega)]
                            exact lo j) (by omega)
                        · skip
                          refine vv_iconst (n := 1) X dL_tidy_172 ?_
                          refine vv_goto (tgt := 177) X (by decide) dL_tidy_173 ?_
                          refine vv_istore (lv' := [(6, .int (zI 1)), (0, .int (zI nv)), (1, .ref (ad 110)), (2, .ref (ad 111)), (3, .ref (ad 112)), (4, .int (zI a4)), (5, .int (zI b5)), (7, .int (zI d7))]) X (by decide) rfl dL_tidy_177 ?_
                          refine vv_iinc (lv' := [(7, .int (zI (d7 + 1))), (6, .int (zI 1)), (0, .int (zI nv)), (1, .ref (ad 110)), (2, .ref (ad 111)), (3, .ref (ad 112)), (4, .int (zI a4)), (5, .int (zI b5))]) X 7 rfl (by decide) rfl dL_tidy_179 ?_
                          refine vv_goto (tgt := 137) X (by decide) dL_tidy_182 ?_
                          refine vv_sub (lv' := [(0, .int (zI nv)), (1, .ref (ad 110)), (2, .ref (ad 111)), (3, .ref (ad 112)), (4, .int (zI a4)), (5, .int (zI b5)), (6, .int (zI 1)), (7, .int (zI (d7 + 1)))]) [2, 3, 4, 5, 6, 7, 1, 0] rfl ?_
                          exact ih_137 (up2 M_137 112 (2 * k3) (Int.tdiv (M_6 112 (2 * k3)) b5)) (k3 + 1) 1 (d7 + 1) (by omega) (by omega) (by omega) (by rw [← lnx]; omega) (eqx_up _ _ lE (by decide)) (fun j => by
                            show uz (M_137 112) (2 * k3) _ (2 * j) = _
                            unfold uz
                            by_cases q : j = k3
                            · rw [if_pos (by omega), if_pos (by omega), q]
                            · rw [if_neg (by omega), lj j]
                              by_cases q2 : j < k3
                              · rw [if_pos q2, if_pos (by omega)]
                              · rw [if_neg q2, if_neg (by omega)]) (fun j => by
                            show uz (M_137 112) (2 * k3) _ (2 * j + 1) = _
                            unfold uz
                            rw [if_neg (by omega)]
                            exact lo j) (by omega)
                refine vv_sub (lv' := [(0, .int (zI nv)), (1, .ref (ad 110)), (2, .ref (ad 111)), (3, .ref (ad 112)), (4, .int (zI a4)), (5, .int (zI b5)), (6, .int (zI 1)), (7, .int (zI 0))]) [2, 3, 4, 5, 6, 7, 1, 0] rfl ?_
                exact loop_137 _ M_6 0 1 0 rfl (by omega) (by omega) (⟨fun _ => ⟨by omega, fun j hj => absurd hj (by omega)⟩, fun _ => rfl⟩) hE (fun j => by rw [if_neg (by omega)]) (fun j => rfl) (Nat.lt_succ_self _)
            · skip
              refine vv_aload_n X 3 rfl rfl dL_tidy_101 ?_
              refine vv_iconst (n := 2) X dL_tidy_102 ?_
              refine vv_iload X 6 rfl dL_tidy_103 ?_
              refine vv_imul X dL_tidy_105 ?_
              refine vv_iald (z := (M_6 112 (2 * k2))) X (by decide) sh_112 (by decide) (by omega) (by first | (rw [i3]; done) | (rw [i3]; exact (rfl))) dL_tidy_106 ?_
              refine vv_iload X 5 rfl dL_tidy_107 ?_
              refine vv_callSI (As := [.int (zI (M_6 112 (2 * k2))), .int (zI b5)]) (st := []) X 2 (c_L_gcd l D cA had M_6 (M_6 112 (2 * k2)) b5 (by omega) (by omega)) gL_tidy_L_gcd rfl (by decide +kernel) ⟨by decide, by decide⟩ (Nat.le_of_ble_eq_true rfl) ⟨by decide, by decide⟩ rfl rfl dL_tidy_109 (fun z109 Mc109 q_109 => ?_)
              obtain ⟨e_z109, g_z109⟩ := q_109
              have g_z109 := g_z109.symm
              subst g_z109
              refine vv_istore (lv' := [(5, .int (zI z109)), (0, .int (zI nv)), (1, .ref (ad 110)), (2, .ref (ad 111)), (3, .ref (ad 112)), (4, .int (zI a4)), (6, .int (zI b6))]) X (by decide) rfl dL_tidy_112 ?_
              refine vv_iinc (lv' := [(6, .int (zI (b6 + 1))), (5, .int (zI z109)), (0, .int (zI nv)), (1, .ref (ad 110)), (2, .ref (ad 111)), (3, .ref (ad 112)), (4, .int (zI a4))]) X 6 rfl (by decide) rfl dL_tidy_114 ?_
              refine vv_goto (tgt := 94) X (by decide) dL_tidy_117 ?_
              refine vv_sub (lv' := [(0, .int (zI nv)), (1, .ref (ad 110)), (2, .ref (ad 111)), (3, .ref (ad 112)), (4, .int (zI a4)), (5, .int (zI z109)), (6, .int (zI (b6 + 1)))]) [2, 3, 4, 5, 6, 1, 0] rfl ?_
              exact ih_94 (k2 + 1) z109 (b6 + 1) (by omega) (by omega) (by rw [e_z109, g5, Int.gcd_comm]; rfl) (by omega)
        refine vv_sub (lv' := [(0, .int (zI nv)), (1, .ref (ad 110)), (2, .ref (ad 111)), (3, .ref (ad 112)), (4, .int (zI a4)), (5, .int (zI 0)), (6, .int (zI 0))]) [2, 3, 4, 5, 6, 1, 0] rfl ?_
        exact loop_94 _ 0 0 0 rfl (by omega) rfl (Nat.lt_succ_self _)
      · skip
        refine vv_iconst (n := 0) X dL_tidy_13 ?_
        refine vv_istore (lv' := [(6, .int (zI 0)), (0, .int (zI nv)), (1, .ref (ad 110)), (2, .ref (ad 111)), (3, .ref (ad 112)), (4, .int (zI a4)), (5, .int (zI a5))]) X (by decide) rfl dL_tidy_14 ?_
        refine vv_iconst (n := 0) X dL_tidy_16 ?_
        refine vv_istore (lv' := [(7, .int (zI 0)), (6, .int (zI 0)), (0, .int (zI nv)), (1, .ref (ad 110)), (2, .ref (ad 111)), (3, .ref (ad 112)), (4, .int (zI a4)), (5, .int (zI a5))]) X (by decide) rfl dL_tidy_17 ?_
        have loop_19 : ∀ (n : Nat)  (t : Nat) (a6 : Int) (a7 : Int), a7 = (t : Int) → (t : Int) ≤ nv → a6 = SF (M 110) (M 111) t k → (nv - a7).toNat < n → VV p l e { frames := 1, cells := 0, slots := 0, locals := 24 } s m args below meth c 8 D ad cA (Afr ad s.heap.size) 0 0 (QI below args s D ad cA (fun z M1 => ((okF (red (SF (M 110) (M 111) nv.toNat)) ∧ z = 1) ∨ (¬ okF (red (SF (M 110) (M 111) nv.toNat)) ∧ z = 0)) ∧ eqx M M1 [112] ∧ SplitOf (red (SF (M 110) (M 111) nv.toNat)) (M1 112 16) (fun i => M1 112 (2 * i)) (fun i => M1 112 (2 * i + 1)) ∧ (0 ≤ M1 112 16 ∧ M1 112 16 ≤ 7))) M_6 19 [(0, .int (zI nv)), (1, .ref (ad 110)), (2, .ref (ad 111)), (3, .ref (ad 112)), (4, .int (zI a4)), (5, .int (zI a5)), (6, .int (zI a6)), (7, .int (zI a7))] [] := by
          intro n
          induction n with
          | zero => intro t a6 a7 h7 ht h6 hn; exact absurd hn (Nat.not_lt_zero _)
          | succ n ih_19 =>
            intro t a6 a7 h7 ht h6 hn
            have i7 : a7.toNat = t := by omega
            have hwt : (t : Int) < nv → (0 ≤ M 110 t ∧ M 110 t ≤ 1000000) ∧ (0 ≤ M 111 t ∧ M 111 t ≤ 100) := hw t
            refine vv_iload X 7 rfl dL_tidy_19 ?_
            refine vv_iload_n X 0 rfl rfl dL_tidy_21 ?_
            refine vv_icmp_ge (tgt := 53) X (by omega) (by omega) dL_tidy_22 (by decide) (fun c_22 => ?_) (fun c_22 => ?_)
            · skip
              have etn : t = nv.toNat := by omega
              have eFk : a6 = F k := by rw [h6, etn, hF]
              have hFk := hFb k
              refine vv_iload X 6 rfl dL_tidy_53 ?_
              refine vv_if_ne (tgt := 61) X (by omega) dL_tidy_55 (by decide) (fun c_55 => ?_) (fun c_55 => ?_)
              · skip
                have hm6 : a4 ≤ 6 := by
                  have q1 := hcm (k + 1)
                  have q2 : cnt F (k + 1) = cnt F k + (if 0 < F k then 1 else 0) := rfl
                  rw [if_pos (by omega), ← hS.1] at q2
                  omega
                refine vv_aload_n X 3 rfl rfl dL_tidy_61 ?_
                refine vv_iconst (n := 2) X dL_tidy_62 ?_
                refine vv_iload X 4 rfl dL_tidy_63 ?_
                refine vv_imul X dL_tidy_65 ?_
                refine vv_iload X 6 rfl dL_tidy_66 ?_
                refine vv_iast (ix := (2 * a4.toNat)) X (by decide) sh_112 (by decide) (by omega) (i1) dL_tidy_68 ?_
                refine vv_aload_n X 3 rfl rfl dL_tidy_69 ?_
                refine vv_iconst (n := 2) X dL_tidy_70 ?_
                refine vv_iload X 4 rfl dL_tidy_71 ?_
                refine vv_iinc (lv' := [(4, .int (zI (a4 + 1))), (0, .int (zI nv)), (1, .ref (ad 110)), (2, .ref (ad 111)), (3, .ref (ad 112)), (5, .int (zI a5)), (6, .int (zI a6)), (7, .int (zI a7))]) X 4 rfl (by decide) rfl dL_tidy_73 ?_
                refine vv_imul X dL_tidy_76 ?_
                refine vv_iconst (n := 1) X dL_tidy_77 ?_
                refine vv_iadd X dL_tidy_78 ?_
                refine vv_iload X 5 rfl dL_tidy_79 ?_
                refine vv_iast (ix := (2 * a4.toNat + 1)) X (by decide) sh_112 (by decide) (by omega) (i2) dL_tidy_81 ?_
                refine vv_iinc (lv' := [(5, .int (zI (a5 + 1))), (4, .int (zI (a4 + 1))), (0, .int (zI nv)), (1, .ref (ad 110)), (2, .ref (ad 111)), (3, .ref (ad 112)), (6, .int (zI a6)), (7, .int (zI a7))]) X 5 rfl (by decide) rfl dL_tidy_82 ?_
                refine vv_goto (tgt := 6) X (by decide) dL_tidy_85 ?_
                refine vv_sub (lv' := [(0, .int (zI nv)), (1, .ref (ad 110)), (2, .ref (ad 111)), (3, .ref (ad 112)), (4, .int (zI (a4 + 1))), (5, .int (zI (a5 + 1)))]) [2, 3, 4, 5, 1, 0] rfl ?_
                exact ih_6 (up2 (up2 M_6 112 (2 * a4.toNat) a6) 112 (2 * a4.toNat + 1) a5) (k + 1) (a4 + 1) (a5 + 1) (by omega) (by omega) (eqx_up _ _ (eqx_up _ _ hE (by decide)) (by decide)) (by
                  show SplitTo F (k + 1) (a4 + 1) (fun i => uz (uz (M_6 112) (2 * a4.toNat) a6) (2 * a4.toNat + 1) a5 (2 * i)) (fun i => uz (uz (M_6 112) (2 * a4.toNat) a6) (2 * a4.toNat + 1) a5 (2 * i + 1))
                  rw [ev_e, ev_o, eFk, h5]
                  exact SplitTo_yes hS (by omega)) (by omega)
              · skip
                refine vv_goto (tgt := 82) X (by decide) dL_tidy_58 ?_
                refine vv_iinc (lv' := [(5, .int (zI (a5 + 1))), (0, .int (zI nv)), (1, .ref (ad 110)), (2, .ref (ad 111)), (3, .ref (ad 112)), (4, .int (zI a4)), (6, .int (zI a6)), (7, .int (zI a7))]) X 5 rfl (by decide) rfl dL_tidy_82 ?_
                refine vv_goto (tgt := 6) X (by decide) dL_tidy_85 ?_
                refine vv_sub (lv' := [(0, .int (zI nv)), (1, .ref (ad 110)), (2, .ref (ad 111)), (3, .ref (ad 112)), (4, .int (zI a4)), (5, .int (zI (a5 + 1)))]) [1, 2, 3, 4, 5, 0] rfl ?_
                exact ih_6 M_6 (k + 1) a4 (a5 + 1) (by omega) (by omega) hE (SplitTo_no hS (by omega)) (by omega)
            · skip
              refine vv_iload X 6 rfl dL_tidy_25 ?_
              refine vv_aload_n X 2 rfl rfl dL_tidy_27 ?_
              refine vv_iload X 7 rfl dL_tidy_28 ?_
              refine vv_iald (z := (M 111 t)) X (by decide) sh_111 (by decide) (by omega) (by first | (rw [i7]; done) | (rw [i7]; exact (show M_6 111 t = M 111 t from by rw [e_6_111]))) dL_tidy_30 ?_
              refine vv_iload X 5 rfl dL_tidy_31 ?_
              refine vv_icmp_ne (tgt := 43) X (by omega) (by omega) dL_tidy_33 (by decide) (fun c_33 => ?_) (fun c_33 => ?_)
              · skip
                skip
                refine vv_iconst (n := 0) X dL_tidy_43 ?_
                refine vv_iadd X dL_tidy_44 ?_
                refine vv_istore (lv' := [(6, .int (zI (a6 + 0))), (0, .int (zI nv)), (1, .ref (ad 110)), (2, .ref (ad 111)), (3, .ref (ad 112)), (4, .int (zI a4)), (5, .int (zI a5)), (7, .int (zI a7))]) X (by decide) rfl dL_tidy_45 ?_
                refine vv_iinc (lv' := [(7, .int (zI (a7 + 1))), (6, .int (zI (a6 + 0))), (0, .int (zI nv)), (1, .ref (ad 110)), (2, .ref (ad 111)), (3, .ref (ad 112)), (4, .int (zI a4)), (5, .int (zI a5))]) X 7 rfl (by decide) rfl dL_tidy_47 ?_
                refine vv_goto (tgt := 19) X (by decide) dL_tidy_50 ?_
                refine vv_sub (lv' := [(0, .int (zI nv)), (1, .ref (ad 110)), (2, .ref (ad 111)), (3, .ref (ad 112)), (4, .int (zI a4)), (5, .int (zI a5)), (6, .int (zI (a6 + 0))), (7, .int (zI (a7 + 1)))]) [2, 3, 4, 5, 6, 7, 1, 0] rfl ?_
                exact ih_19 (t + 1) (a6 + 0) (a7 + 1) (by omega) (by omega) (by rw [h6, SF_suc]; rw [if_neg (by omega)]) (by omega)
              · skip
                refine vv_aload_n X 1 rfl rfl dL_tidy_36 ?_
                refine vv_iload X 7 rfl dL_tidy_37 ?_
                refine vv_iald (z := (M 110 t)) X (by decide) sh_110 (by decide) (by omega) (by first | (rw [i7]; done) | (rw [i7]; exact (show M_6 110 t = M 110 t from by rw [e_6_110]))) dL_tidy_39 ?_
                refine vv_goto (tgt := 44) X (by decide) dL_tidy_40 ?_
                refine vv_iadd X dL_tidy_44 ?_
                refine vv_istore (lv' := [(6, .int (zI (a6 + (M 110 t)))), (0, .int (zI nv)), (1, .ref (ad 110)), (2, .ref (ad 111)), (3, .ref (ad 112)), (4, .int (zI a4)), (5, .int (zI a5)), (7, .int (zI a7))]) X (by decide) rfl dL_tidy_45 ?_
                refine vv_iinc (lv' := [(7, .int (zI (a7 + 1))), (6, .int (zI (a6 + (M 110 t)))), (0, .int (zI nv)), (1, .ref (ad 110)), (2, .ref (ad 111)), (3, .ref (ad 112)), (4, .int (zI a4)), (5, .int (zI a5))]) X 7 rfl (by decide) rfl dL_tidy_47 ?_
                refine vv_goto (tgt := 19) X (by decide) dL_tidy_50 ?_
                refine vv_sub (lv' := [(0, .int (zI nv)), (1, .ref (ad 110)), (2, .ref (ad 111)), (3, .ref (ad 112)), (4, .int (zI a4)), (5, .int (zI a5)), (6, .int (zI (a6 + (M 110 t)))), (7, .int (zI (a7 + 1)))]) [2, 3, 4, 5, 6, 7, 1, 0] rfl ?_
                exact ih_19 (t + 1) (a6 + (M 110 t)) (a7 + 1) (by omega) (by omega) (by rw [h6, SF_suc]; rw [if_pos (by omega)]) (by omega)
        refine vv_sub (lv' := [(0, .int (zI nv)), (1, .ref (ad 110)), (2, .ref (ad 111)), (3, .ref (ad 112)), (4, .int (zI a4)), (5, .int (zI a5)), (6, .int (zI 0)), (7, .int (zI 0))]) [2, 3, 4, 5, 6, 7, 1, 0] rfl ?_
        exact loop_19 _ 0 0 0 rfl (by omega) rfl (Nat.lt_succ_self _)
  refine vv_sub (lv' := [(0, .int (zI nv)), (1, .ref (ad 110)), (2, .ref (ad 111)), (3, .ref (ad 112)), (4, .int (zI 0)), (5, .int (zI 0))]) [2, 3, 4, 5, 1, 0] rfl ?_
  exact loop_6 _ M 0 0 0 rfl (by omega) (eqx_rf _ _) SplitTo_0 (Nat.lt_succ_self _)
set_option maxRecDepth 100000 in
set_option maxHeartbeats 4000000 in
theorem c_L_take (l : Launch) (D : va_G) {ad : Nat → Nat} (cA : Nat → ClassId) (had : adok ad) (M : Mem) (hm : 0 ≤ M 112 16 ∧ M 112 16 ≤ 8) : CtV l yL_take wsL_take 0 0 D ad cA [.ref (ad 112), .ref (ad 105), .ref (ad 107), .ref (ad 108)] M (fun M1 => eqx M M1 [105, 107, 108] ∧ M1 105 = uz (M 105) 2 (M 112 16) ∧ ∀ j : Nat, (j : Int) < M 112 16 → M1 107 j = M 112 (2 * j) ∧ M1 108 j = M 112 (2 * j + 1)) := by
  refine CtV.of (cc := cL_take) (maxL := 5) (ret := none) had (by decide) rfl (Nat.le_of_ble_eq_true rfl) ?_
  intro p e s m args below meth c X hm
  show VV p l e { frames := 0, cells := 0, slots := 0, locals := 0 } s m args below meth c 5 D ad cA (Afr ad s.heap.size) 0 0 (QV below args s D ad cA (fun M1 => eqx M M1 [105, 107, 108] ∧ M1 105 = uz (M 105) 2 (M 112 16) ∧ ∀ j : Nat, (j : Int) < M 112 16 → M1 107 j = M 112 (2 * j) ∧ M1 108 j = M 112 (2 * j + 1))) M 0 [(0, .ref (ad 112)), (1, .ref (ad 105)), (2, .ref (ad 107)), (3, .ref (ad 108))] []
  refine vv_aload_n X 1 rfl rfl dL_take_0 ?_
  refine vv_iconst (n := 2) X dL_take_1 ?_
  refine vv_aload_n X 0 rfl rfl dL_take_2 ?_
  refine vv_bipush (n := 16) X (by decide) dL_take_3 ?_
  refine vv_iald (z := (M 112 16)) X (by decide) sh_112 (by decide) (by omega) (rfl) dL_take_5 ?_
  refine vv_iast (ix := 2) X (by decide) sh_105 (by decide) (by omega) (rfl) dL_take_6 ?_
  refine vv_iconst (n := 0) X dL_take_7 ?_
  refine vv_istore (lv' := [(4, .int (zI 0)), (0, .ref (ad 112)), (1, .ref (ad 105)), (2, .ref (ad 107)), (3, .ref (ad 108))]) X (by decide) rfl dL_take_8 ?_
  have loop_10 : ∀ (n : Nat) (M_10 : Mem) (k : Nat) (a4 : Int), a4 = (k : Int) → (k : Int) ≤ M 112 16 → eqx M M_10 [105, 107, 108] → M_10 105 = uz (M 105) 2 (M 112 16) → (∀ j : Nat, j < k → M_10 107 j = M 112 (2 * j) ∧ M_10 108 j = M 112 (2 * j + 1)) → (M 112 16 - a4).toNat < n → VV p l e { frames := 0, cells := 0, slots := 0, locals := 0 } s m args below meth c 5 D ad cA (Afr ad s.heap.size) 0 0 (QV below args s D ad cA (fun M1 => eqx M M1 [105, 107, 108] ∧ M1 105 = uz (M 105) 2 (M 112 16) ∧ ∀ j : Nat, (j : Int) < M 112 16 → M1 107 j = M 112 (2 * j) ∧ M1 108 j = M 112 (2 * j + 1))) M_10 10 [(0, .ref (ad 112)), (1, .ref (ad 105)), (2, .ref (ad 107)), (3, .ref (ad 108)), (4, .int (zI a4))] [] := by
    intro n
    induction n with
    | zero => intro M_10 k a4 h4 hk hE hq hj hn; exact absurd hn (Nat.not_lt_zero _)
    | succ n ih_10 =>
      intro M_10 k a4 h4 hk hE hq hj hn
      have e_10_112 : M_10 112 = M 112 := hE 112 (by decide)
      have i4 : a4.toNat = k := by omega
      have i5 : (2 * a4).toNat = 2 * k := by omega
      have i6 : (2 * a4 + 1).toNat = 2 * k + 1 := by omega
      refine vv_iload X 4 rfl dL_take_10 ?_
      refine vv_aload_n X 1 rfl rfl dL_take_12 ?_
      refine vv_iconst (n := 2) X dL_take_13 ?_
      refine vv_iald (z := (M 112 16)) X (by decide) sh_105 (by decide) (by omega) (by rw [hq]; exact uz_s _ _ _) dL_take_14 ?_
      refine vv_icmp_ge (tgt := 46) X (by omega) (by omega) dL_take_15 (by decide) (fun c_15 => ?_) (fun c_15 => ?_)
      · skip
        exact vv_vret X hm (⟨hE, hq, fun j h => hj j (by omega)⟩) dL_take_46
      · skip
        refine vv_aload_n X 2 rfl rfl dL_take_18 ?_
        refine vv_iload X 4 rfl dL_take_19 ?_
        refine vv_aload_n X 0 rfl rfl dL_take_21 ?_
        refine vv_iconst (n := 2) X dL_take_22 ?_
        refine vv_iload X 4 rfl dL_take_23 ?_
        refine vv_imul X dL_take_25 ?_
        refine vv_iald (z := (M 112 (2 * k))) X (by decide) sh_112 (by decide) (by omega) (by first | (rw [i5]; done) | (rw [i5]; exact (show M_10 112 (2 * k) = M 112 (2 * k) from by rw [e_10_112]))) dL_take_26 ?_
        refine vv_iast (ix := k) X (by decide) sh_107 (by decide) (by omega) (i4) dL_take_27 ?_
        refine vv_aload_n X 3 rfl rfl dL_take_28 ?_
        refine vv_iload X 4 rfl dL_take_29 ?_
        refine vv_aload_n X 0 rfl rfl dL_take_31 ?_
        refine vv_iconst (n := 2) X dL_take_32 ?_
        refine vv_iload X 4 rfl dL_take_33 ?_
        refine vv_imul X dL_take_35 ?_
        refine vv_iconst (n := 1) X dL_take_36 ?_
        refine vv_iadd X dL_take_37 ?_
        refine vv_iald (z := (M 112 (2 * k + 1))) X (by decide) sh_112 (by decide) (by omega) (by first | (rw [i6]; done) | (rw [i6]; exact (show M_10 112 (2 * k + 1) = M 112 (2 * k + 1) from by rw [e_10_112]))) dL_take_38 ?_
        refine vv_iast (ix := k) X (by decide) sh_108 (by decide) (by omega) (i4) dL_take_39 ?_
        refine vv_iinc (lv' := [(4, .int (zI (a4 + 1))), (0, .ref (ad 112)), (1, .ref (ad 105)), (2, .ref (ad 107)), (3, .ref (ad 108))]) X 4 rfl (by decide) rfl dL_take_40 ?_
        refine vv_goto (tgt := 10) X (by decide) dL_take_43 ?_
        refine vv_sub (lv' := [(0, .ref (ad 112)), (1, .ref (ad 105)), (2, .ref (ad 107)), (3, .ref (ad 108)), (4, .int (zI (a4 + 1)))]) [1, 2, 3, 4, 0] rfl ?_
        exact ih_10 (up2 (up2 M_10 107 k (M 112 (2 * k))) 108 k (M 112 (2 * k + 1))) (k + 1) (a4 + 1) (by omega) (by omega) (eqx_up _ _ (eqx_up _ _ hE (by decide)) (by decide)) hq (fun j hj2 => by
          show uz (M_10 107) k _ j = _ ∧ uz (M_10 108) k _ j = _
          unfold uz
          by_cases q : j = k
          · rw [if_pos q, if_pos q, q]
            exact ⟨rfl, rfl⟩
          · rw [if_neg q, if_neg q]
            exact hj j (by omega)) (by omega)
  refine vv_sub (lv' := [(0, .ref (ad 112)), (1, .ref (ad 105)), (2, .ref (ad 107)), (3, .ref (ad 108)), (4, .int (zI 0))]) [1, 2, 3, 4, 0] rfl ?_
  exact loop_10 _ (up2 M 105 2 (M 112 16)) 0 0 rfl (by omega) (eqx_up _ _ (eqx_rf _ _) (by decide)) (stc_s _ _ _) (fun j hj => absurd hj (by omega)) (Nat.lt_succ_self _)
