set_option maxRecDepth 100000 in
set_option maxHeartbeats 4000000 in
theorem c_L_envelope (l : Launch) (D : va_G) {ad : Nat → Nat} (cA : Nat → ClassId) (had : adok ad) (M : Mem) (x : Int) (hx : 0 ≤ x ∧ x ≤ 100) (hW : rWR M) : CtI l yL_envelope wsL_envelope 2 50 D ad cA [.int (zI x), .ref (ad 105), .ref (ad 106), .ref (ad 109)] M (fun z M1 => ∃ lo hi : Int, isB (rvl M) x lo hi ∧ z = lo + 1000 * hi ∧ M1 = up2 (up2 M 109 0 (frA (sN (rvl M) x lo hi) (sD lo hi))) 109 1 (frB (sN (rvl M) x lo hi) (sD lo hi))) := by
  refine CtI.of (cc := cL_envelope) (maxL := 9) (ret := (some .int)) had (by decide) rfl (Nat.le_of_ble_eq_true rfl) ?_
  intro p e s m args below meth c X hm
  show VV p l e { frames := 2, cells := 0, slots := 0, locals := 50 } s m args below meth c 9 D ad cA (Afr ad s.heap.size) 0 0 (QI below args s D ad cA (fun z M1 => ∃ lo hi : Int, isB (rvl M) x lo hi ∧ z = lo + 1000 * hi ∧ M1 = up2 (up2 M 109 0 (frA (sN (rvl M) x lo hi) (sD lo hi))) 109 1 (frB (sN (rvl M) x lo hi) (sD lo hi)))) M 0 [(0, .int (zI x)), (1, .ref (ad 105)), (2, .ref (ad 106)), (3, .ref (ad 109))] []
  have hvb : ∀ y : Int, -495 ≤ rvl M y ∧ rvl M y ≤ 990 := fun y => vl_b hW.2
  refine vv_iload_n X 0 rfl rfl dL_envelope_0 ?_
  refine vv_sipush (n := 1000) X (by decide) dL_envelope_1 ?_
  refine vv_iload_n X 0 rfl rfl dL_envelope_4 ?_
  refine vv_imul X dL_envelope_5 ?_
  refine vv_iadd X dL_envelope_6 ?_
  refine vv_istore (lv' := [(4, .int (zI (x + (1000 * x)))), (0, .int (zI x)), (1, .ref (ad 105)), (2, .ref (ad 106)), (3, .ref (ad 109))]) X (by decide) rfl dL_envelope_7 ?_
  refine vv_aload_n X 4 rfl rfl dL_envelope_9 ?_
  refine vv_iconst (n := 0) X dL_envelope_10 ?_
  refine vv_iload_n X 1 rfl rfl dL_envelope_11 ?_
  refine vv_aload_n X 2 rfl rfl dL_envelope_12 ?_
  refine vv_aload_n X 3 rfl rfl dL_envelope_13 ?_
  refine vv_callSI (As := [.int (zI x), .ref (ad 105), .ref (ad 106)]) (st := [.int (zI 0), .ref (ad 109)]) X 3 (c_L_value l D cA had M x (by omega) (by assumption)) gL_envelope_L_value rfl (by decide +kernel) ⟨by decide, by decide⟩ (Nat.le_of_ble_eq_true rfl) ⟨by decide, by decide⟩ rfl rfl dL_envelope_14 (fun z14 Mc14 q_14 => ?_)
  obtain ⟨e_z14, g_z14⟩ := q_14
  have g_z14 := g_z14.symm
  subst g_z14
  refine vv_iast (ix := 0) X (by decide) sh_109 (by decide) (by omega) (rfl) dL_envelope_17 ?_
  refine vv_aload_n X 4 rfl rfl dL_envelope_18 ?_
  refine vv_iconst (n := 1) X dL_envelope_19 ?_
  refine vv_iconst (n := 1) X dL_envelope_20 ?_
  refine vv_iast (ix := 1) X (by decide) sh_109 (by decide) (by omega) (rfl) dL_envelope_21 ?_
  refine vv_iconst (n := 0) X dL_envelope_22 ?_
  refine vv_istore (lv' := [(5, .int (zI 0)), (4, .int (zI (x + (1000 * x)))), (0, .int (zI x)), (1, .ref (ad 105)), (2, .ref (ad 106)), (3, .ref (ad 109))]) X (by decide) rfl dL_envelope_23 ?_
  have loop_25 : ∀ (n : Nat) (M_25 : Mem) (lo : Int) (hi : Int) (a5 : Int), M_25 = up2 (up2 M 109 0 (sN (rvl M) x lo hi)) 109 1 (sD lo hi) → 0 ≤ a5 ∧ a5 ≤ x → MaxIn (rvl M) x lo hi (fun a b => (a = x ∧ b = x) ∨ a < a5) → (x - a5).toNat < n → VV p l e { frames := 2, cells := 0, slots := 0, locals := 50 } s m args below meth c 9 D ad cA (Afr ad s.heap.size) 0 0 (QI below args s D ad cA (fun z M1 => ∃ lo hi : Int, isB (rvl M) x lo hi ∧ z = lo + 1000 * hi ∧ M1 = up2 (up2 M 109 0 (frA (sN (rvl M) x lo hi) (sD lo hi))) 109 1 (frB (sN (rvl M) x lo hi) (sD lo hi)))) M_25 25 [(0, .int (zI x)), (1, .ref (ad 105)), (2, .ref (ad 106)), (3, .ref (ad 109)), (4, .int (zI (x + (1000 * x)))), (5, .int (zI a5))] [] := by
    intro n
    induction n with
    | zero => intro M_25 lo hi a5 hM h5 hB hn; exact absurd hn (Nat.not_lt_zero _)
    | succ n ih_25 =>
      intro M_25 lo hi a5 hM h5 hB hn
      refine vv_iload X 5 rfl dL_envelope_25 ?_
      refine vv_iload_n X 0 rfl rfl dL_envelope_27 ?_
      refine vv_icmp_ge (tgt := 116) X (by omega) (by omega) dL_envelope_28 (by decide) (fun c_28 => ?_) (fun c_28 => ?_)
      · skip
        have e_m105 : M_25 105 = M 105 := by rw [hM]; rfl
        have e_m106 : M_25 106 = M 106 := by rw [hM]; rfl
        have hWm : rWR M_25 := by unfold rWR rL rG rP rB; rw [e_m105, e_m106]; exact hW
        have hvm : ∀ y : Int, rvl M_25 y = rvl M y := fun y => by unfold rvl rL rG rP rB; rw [e_m105, e_m106]
        have hm0 := hB.1
        have hd0 := sD_pos hm0
        have hsN : -198000 ≤ sN (rvl M) x lo hi ∧ sN (rvl M) x lo hi ≤ 198000 := sN_b hvb hx hm0
        have hsD := sD_b hx hm0
        have hmax : MaxIn (rvl M) x lo hi (fun _ _ => True) := MaxIn_w hB (fun a b ha _ => by rcases ha with ha | ha; exact Or.inl ha; exact Or.inr (by omega))
        refine vv_iconst (n := 0) X dL_envelope_116 ?_
        refine vv_istore (lv' := [(5, .int (zI 0)), (0, .int (zI x)), (1, .ref (ad 105)), (2, .ref (ad 106)), (3, .ref (ad 109)), (4, .int (zI (x + (1000 * x))))]) X (by decide) rfl dL_envelope_117 ?_
        refine vv_iconst (n := 0) X dL_envelope_119 ?_
        refine vv_istore (lv' := [(6, .int (zI 0)), (5, .int (zI 0)), (0, .int (zI x)), (1, .ref (ad 105)), (2, .ref (ad 106)), (3, .ref (ad 109)), (4, .int (zI (x + (1000 * x))))]) X (by decide) rfl dL_envelope_120 ?_
        have loop_122 : ∀ (n : Nat)  (f4 : Int) (f5 : Int) (f6 : Int), 0 ≤ f6 ∧ f6 ≤ x → FND (rvl M) x (sN (rvl M) x lo hi) (sD lo hi) f4 f5 (fun a _ => a < f6) → (x - f6).toNat < n → VV p l e { frames := 2, cells := 0, slots := 0, locals := 50 } s m args below meth c 9 D ad cA (Afr ad s.heap.size) 0 0 (QI below args s D ad cA (fun z M1 => ∃ lo hi : Int, isB (rvl M) x lo hi ∧ z = lo + 1000 * hi ∧ M1 = up2 (up2 M 109 0 (frA (sN (rvl M) x lo hi) (sD lo hi))) 109 1 (frB (sN (rvl M) x lo hi) (sD lo hi)))) M_25 122 [(0, .int (zI x)), (1, .ref (ad 105)), (2, .ref (ad 106)), (3, .ref (ad 109)), (4, .int (zI f4)), (5, .int (zI f5)), (6, .int (zI f6))] [] := by
          intro n
          induction n with
          | zero => intro f4 f5 f6 j6 jF hn; exact absurd hn (Nat.not_lt_zero _)
          | succ n ih_122 =>
            intro f4 f5 f6 j6 jF hn
            have jf := FND_f jF
            refine vv_iload X 6 rfl dL_envelope_122 ?_
            refine vv_iload_n X 0 rfl rfl dL_envelope_124 ?_
            refine vv_icmp_ge (tgt := 235) X (by omega) (by omega) dL_envelope_125 (by decide) (fun c_125 => ?_) (fun c_125 => ?_)
            · skip
              obtain ⟨ra, rb, rB, re1, re2, re3⟩ := env_end hmax jF (fun z a b q1 q2 => by rcases q1 with q1 | q1 <;> omega)
              refine vv_aload_n X 3 rfl rfl dL_envelope_235 ?_
              refine vv_iconst (n := 0) X dL_envelope_236 ?_
              refine vv_iald (z := (sN (rvl M) x lo hi)) X (by decide) sh_109 (by decide) (by omega) (by rw [hM]; rfl) dL_envelope_237 ?_
              refine vv_aload_n X 3 rfl rfl dL_envelope_238 ?_
              refine vv_iconst (n := 1) X dL_envelope_239 ?_
              refine vv_iald (z := (sD lo hi)) X (by decide) sh_109 (by decide) (by omega) (by rw [hM]; rfl) dL_envelope_240 ?_
              refine vv_aload_n X 3 rfl rfl dL_envelope_241 ?_
              refine vv_callSV (As := [.int (zI (sN (rvl M) x lo hi)), .int (zI (sD lo hi)), .ref (ad 109)]) (st := []) X 3 (c_L_least l D cA had M_25 (sN (rvl M) x lo hi) (sD lo hi) (by omega) (by omega) (by omega)) gL_envelope_L_least rfl (by decide +kernel) ⟨by decide, by decide⟩ (Nat.le_of_ble_eq_true rfl) ⟨by decide, by decide⟩ rfl rfl dL_envelope_242 (fun Mc242 q_242 => ?_)
              have q_242 := q_242.symm
              subst q_242
              refine vv_iload X 4 rfl dL_envelope_245 ?_
              exact vv_iret X hm (⟨ra, rb, rB, re1, by rw [hM, up_pair (by decide), re2, re3]⟩) dL_envelope_247
            · skip
              refine vv_iload X 5 rfl dL_envelope_128 ?_
              refine vv_if_ne (tgt := 235) X (by omega) dL_envelope_130 (by decide) (fun c_130 => ?_) (fun c_130 => ?_)
              · skip
                obtain ⟨ra, rb, rB, re1, re2, re3⟩ := env_end hmax jF (fun z a b q1 q2 => by rcases q1 with q1 | q1 <;> omega)
                refine vv_aload_n X 3 rfl rfl dL_envelope_235 ?_
                refine vv_iconst (n := 0) X dL_envelope_236 ?_
                refine vv_iald (z := (sN (rvl M) x lo hi)) X (by decide) sh_109 (by decide) (by omega) (by rw [hM]; rfl) dL_envelope_237 ?_
                refine vv_aload_n X 3 rfl rfl dL_envelope_238 ?_
                refine vv_iconst (n := 1) X dL_envelope_239 ?_
                refine vv_iald (z := (sD lo hi)) X (by decide) sh_109 (by decide) (by omega) (by rw [hM]; rfl) dL_envelope_240 ?_
                refine vv_aload_n X 3 rfl rfl dL_envelope_241 ?_
                refine vv_callSV (As := [.int (zI (sN (rvl M) x lo hi)), .int (zI (sD lo hi)), .ref (ad 109)]) (st := []) X 3 (c_L_least l D cA had M_25 (sN (rvl M) x lo hi) (sD lo hi) (by omega) (by omega) (by omega)) gL_envelope_L_least rfl (by decide +kernel) ⟨by decide, by decide⟩ (Nat.le_of_ble_eq_true rfl) ⟨by decide, by decide⟩ rfl rfl dL_envelope_242 (fun Mc242 q_242 => ?_)
                have q_242 := q_242.symm
                subst q_242
                refine vv_iload X 4 rfl dL_envelope_245 ?_
                exact vv_iret X hm (⟨ra, rb, rB, re1, by rw [hM, up_pair (by decide), re2, re3]⟩) dL_envelope_247
              · skip
                refine vv_iload_n X 0 rfl rfl dL_envelope_133 ?_
                refine vv_iconst (n := 1) X dL_envelope_134 ?_
                refine vv_iadd X dL_envelope_135 ?_
                refine vv_istore (lv' := [(7, .int (zI (x + 1))), (0, .int (zI x)), (1, .ref (ad 105)), (2, .ref (ad 106)), (3, .ref (ad 109)), (4, .int (zI f4)), (5, .int (zI f5)), (6, .int (zI f6))]) X (by decide) rfl dL_envelope_136 ?_
                have loop_138 : ∀ (n : Nat)  (g4 : Int) (g5 : Int) (g7 : Int), x + 1 ≤ g7 ∧ g7 ≤ 101 → FND (rvl M) x (sN (rvl M) x lo hi) (sD lo hi) g4 g5 (fun a b => a < f6 ∨ (a = f6 ∧ b < g7)) → (101 - g7).toNat < n → VV p l e { frames := 2, cells := 0, slots := 0, locals := 50 } s m args below meth c 9 D ad cA (Afr ad s.heap.size) 0 0 (QI below args s D ad cA (fun z M1 => ∃ lo hi : Int, isB (rvl M) x lo hi ∧ z = lo + 1000 * hi ∧ M1 = up2 (up2 M 109 0 (frA (sN (rvl M) x lo hi) (sD lo hi))) 109 1 (frB (sN (rvl M) x lo hi) (sD lo hi)))) M_25 138 [(0, .int (zI x)), (1, .ref (ad 105)), (2, .ref (ad 106)), (3, .ref (ad 109)), (4, .int (zI g4)), (5, .int (zI g5)), (6, .int (zI f6)), (7, .int (zI g7))] [] := by
                  intro n
                  induction n with
                  | zero => intro g4 g5 g7 i7 iF hn; exact absurd hn (Nat.not_lt_zero _)
                  | succ n ih_138 =>
                    intro g4 g5 g7 i7 iF hn
                    have jg := FND_f iF
                    refine vv_iload X 7 rfl dL_envelope_138 ?_
                    refine vv_bipush (n := 100) X (by decide) dL_envelope_140 ?_
                    refine vv_icmp_gt (tgt := 229) X (by omega) (by omega) dL_envelope_142 (by decide) (fun c_142 => ?_) (fun c_142 => ?_)
                    · skip
                      refine vv_iinc (lv' := [(6, .int (zI (f6 + 1))), (0, .int (zI x)), (1, .ref (ad 105)), (2, .ref (ad 106)), (3, .ref (ad 109)), (4, .int (zI g4)), (5, .int (zI g5)), (7, .int (zI g7))]) X 6 rfl (by decide) rfl dL_envelope_229 ?_
                      refine vv_goto (tgt := 122) X (by decide) dL_envelope_232 ?_
                      refine vv_sub (lv' := [(0, .int (zI x)), (1, .ref (ad 105)), (2, .ref (ad 106)), (3, .ref (ad 109)), (4, .int (zI g4)), (5, .int (zI g5)), (6, .int (zI (f6 + 1)))]) [1, 2, 3, 4, 5, 6, 0] rfl ?_
                      exact ih_122 g4 g5 (f6 + 1) (by omega) (FND_w iF (fun z a b g1 g2 g3 => by
                        rcases (show a = f6 ∨ a < f6 by omega) with q | q
                        · exact Or.inr ⟨q, by rcases g1 with g1 | g1 <;> omega⟩
                        · exact Or.inl q)) (by omega)
                    · skip
                      refine vv_iload X 5 rfl dL_envelope_145 ?_
                      refine vv_if_ne (tgt := 229) X (by omega) dL_envelope_147 (by decide) (fun c_147 => ?_) (fun c_147 => ?_)
                      · skip
                        refine vv_iinc (lv' := [(6, .int (zI (f6 + 1))), (0, .int (zI x)), (1, .ref (ad 105)), (2, .ref (ad 106)), (3, .ref (ad 109)), (4, .int (zI g4)), (5, .int (zI g5)), (7, .int (zI g7))]) X 6 rfl (by decide) rfl dL_envelope_229 ?_
                        refine vv_goto (tgt := 122) X (by decide) dL_envelope_232 ?_
                        refine vv_sub (lv' := [(0, .int (zI x)), (1, .ref (ad 105)), (2, .ref (ad 106)), (3, .ref (ad 109)), (4, .int (zI g4)), (5, .int (zI g5)), (6, .int (zI (f6 + 1)))]) [1, 2, 3, 4, 5, 6, 0] rfl ?_
                        exact ih_122 g4 g5 (f6 + 1) (by omega) (FND_w iF (fun z a b g1 g2 g3 => by
                          rcases (show a = f6 ∨ a < f6 by omega) with q | q
                          · exact Or.inr ⟨q, by rcases g1 with g1 | g1 <;> omega⟩
                          · exact Or.inl q)) (by omega)
                      · skip
                        refine vv_iload X 7 rfl dL_envelope_150 ?_
                        refine vv_iload_n X 0 rfl rfl dL_envelope_152 ?_
                        refine vv_isub X dL_envelope_153 ?_
                        refine vv_iload X 6 rfl dL_envelope_154 ?_
                        refine vv_aload_n X 1 rfl rfl dL_envelope_156 ?_
                        refine vv_aload_n X 2 rfl rfl dL_envelope_157 ?_
                        refine vv_callSI (As := [.int (zI f6), .ref (ad 105), .ref (ad 106)]) (st := [.int (zI (g7 - x))]) X 3 (c_L_value l D cA had M_25 f6 (by omega) (hWm)) gL_envelope_L_value rfl (by decide +kernel) ⟨by decide, by decide⟩ (Nat.le_of_ble_eq_true rfl) ⟨by decide, by decide⟩ rfl rfl dL_envelope_158 (fun z158 Mc158 q_158 => ?_)
                        obtain ⟨e_z158, g_z158⟩ := q_158
                        have g_z158 := g_z158.symm
                        subst g_z158
                        refine vv_imul X dL_envelope_161 ?_
                        refine vv_iload_n X 0 rfl rfl dL_envelope_162 ?_
                        refine vv_iload X 6 rfl dL_envelope_163 ?_
                        refine vv_isub X dL_envelope_165 ?_
                        refine vv_iload X 7 rfl dL_envelope_166 ?_
                        refine vv_aload_n X 1 rfl rfl dL_envelope_168 ?_
                        refine vv_aload_n X 2 rfl rfl dL_envelope_169 ?_
                        refine vv_callSI (As := [.int (zI g7), .ref (ad 105), .ref (ad 106)]) (st := [.int (zI (x - f6)), .int (zI ((g7 - x) * z158))]) X 3 (c_L_value l D cA had M_25 g7 (by omega) (hWm)) gL_envelope_L_value rfl (by decide +kernel) ⟨by decide, by decide⟩ (Nat.le_of_ble_eq_true rfl) ⟨by decide, by decide⟩ rfl rfl dL_envelope_170 (fun z170 Mc170 q_170 => ?_)
                        obtain ⟨e_z170, g_z170⟩ := q_170
                        have g_z170 := g_z170.symm
                        subst g_z170
                        rw [hvm] at e_z158 e_z170
                        have hok : okS x f6 g7 := Or.inr ⟨by omega, by omega⟩
                        have eN : sN (rvl M) x f6 g7 = (g7 - x) * z158 + (x - f6) * z170 := by unfold sN; rw [if_neg (by omega), e_z158, e_z170]
                        have eD : sD f6 g7 = g7 - f6 := by unfold sD; rw [if_neg (by omega)]
                        have v1 := hvb f6
                        have v2 := hvb g7
                        have m1 := mulS (a := g7 - x) (A := 100) (b := z158) (B := 990) (by omega) (by omega)
                        have m2 := mulS (a := x - f6) (A := 100) (b := z170) (B := 990) (by omega) (by omega)
                        have m3 := mulSS (a := (g7 - x) * z158 + (x - f6) * z170) (A := 198000) (b := sD lo hi) (B := 100) (by omega) (by omega)
                        have m4 := mulSS (a := sN (rvl M) x lo hi) (A := 198000) (b := g7 - f6) (B := 100) (by omega) (by omega)
                        refine vv_imul X dL_envelope_173 ?_
                        refine vv_iadd X dL_envelope_174 ?_
                        refine vv_istore (lv' := [(8, .int (zI (((g7 - x) * z158) + ((x - f6) * z170)))), (0, .int (zI x)), (1, .ref (ad 105)), (2, .ref (ad 106)), (3, .ref (ad 109)), (4, .int (zI g4)), (5, .int (zI g5)), (6, .int (zI f6)), (7, .int (zI g7))]) X (by decide) rfl dL_envelope_175 ?_
                        refine vv_iload X 0 rfl dL_envelope_177 ?_
                        refine vv_aload_n X 4 rfl rfl dL_envelope_179 ?_
                        refine vv_iconst (n := 1) X dL_envelope_180 ?_
                        refine vv_iald (z := (sD lo hi)) X (by decide) sh_109 (by decide) (by omega) (by rw [hM]; rfl) dL_envelope_181 ?_
                        refine vv_imul X dL_envelope_182 ?_
                        refine vv_aload_n X 4 rfl rfl dL_envelope_183 ?_
                        refine vv_iconst (n := 0) X dL_envelope_184 ?_
                        refine vv_iald (z := (sN (rvl M) x lo hi)) X (by decide) sh_109 (by decide) (by omega) (by rw [hM]; rfl) dL_envelope_185 ?_
                        refine vv_iload X 8 rfl dL_envelope_186 ?_
                        refine vv_iload X 7 rfl dL_envelope_188 ?_
                        refine vv_isub X dL_envelope_190 ?_
                        refine vv_imul X dL_envelope_191 ?_
                        refine vv_icmp_ne (tgt := 199) X (by omega) (by omega) dL_envelope_192 (by decide) (fun c_192 => ?_) (fun c_192 => ?_)
                        · skip
                          refine vv_iconst (n := 0) X dL_envelope_199 ?_
                          refine vv_istore (lv' := [(5, .int (zI 0)), (8, .int (zI (((g7 - x) * z158) + ((x - f6) * z170)))), (0, .int (zI x)), (1, .ref (ad 105)), (2, .ref (ad 106)), (3, .ref (ad 109)), (4, .int (zI g4)), (6, .int (zI f6)), (7, .int (zI g7))]) X (by decide) rfl dL_envelope_200 ?_
                          refine vv_iload X 0 rfl dL_envelope_202 ?_
                          refine vv_if_eq (tgt := 219) X (by omega) dL_envelope_204 (by decide) (fun c_204 => ?_) (fun c_204 => ?_)
                          · skip
                            refine vv_iload X 6 rfl dL_envelope_219 ?_
                            refine vv_istore (lv' := [(4, .int (zI g4)), (5, .int (zI 0)), (8, .int (zI (((g7 - x) * z158) + ((x - f6) * z170)))), (0, .int (zI x)), (1, .ref (ad 105)), (2, .ref (ad 106)), (3, .ref (ad 109)), (6, .int (zI f6)), (7, .int (zI g7))]) X (by decide) rfl dL_envelope_221 ?_
                            refine vv_iinc (lv' := [(7, .int (zI (g7 + 1))), (4, .int (zI g4)), (5, .int (zI 0)), (8, .int (zI (((g7 - x) * z158) + ((x - f6) * z170)))), (0, .int (zI x)), (1, .ref (ad 105)), (2, .ref (ad 106)), (3, .ref (ad 109)), (6, .int (zI f6))]) X 8 rfl (by decide) rfl dL_envelope_223 ?_
                            refine vv_goto (tgt := 138) X (by decide) dL_envelope_226 ?_
                            refine vv_sub (lv' := [(0, .int (zI x)), (1, .ref (ad 105)), (2, .ref (ad 106)), (3, .ref (ad 109)), (4, .int (zI g4)), (5, .int (zI 0)), (6, .int (zI f6)), (7, .int (zI (g7 + 1)))]) [4, 5, 6, 7, 1, 2, 8, 0] rfl ?_
                            exact ih_138 g4 0 (g7 + 1) (by omega) (by
                              have g0 : g5 = 0 := by omega
                              subst g0
                              refine FND_w (FND_no iF (l := f6) (h2 := g7) (by rw [eN, eD]; omega)) (fun z a b q1 q2 q3 => ?_)
                              rcases q3 with q3 | q3
                              · exact Or.inl (Or.inl q3)
                              · rcases (show b = g7 ∨ b < g7 by omega) with q | q
                                · exact Or.inr ⟨q3.1, q⟩
                                · exact Or.inl (Or.inr ⟨q3.1, q⟩)) (by omega)
                          · skip
                            omega
                        · skip
                          refine vv_iconst (n := 1) X dL_envelope_195 ?_
                          refine vv_goto (tgt := 200) X (by decide) dL_envelope_196 ?_
                          refine vv_istore (lv' := [(5, .int (zI 1)), (8, .int (zI (((g7 - x) * z158) + ((x - f6) * z170)))), (0, .int (zI x)), (1, .ref (ad 105)), (2, .ref (ad 106)), (3, .ref (ad 109)), (4, .int (zI g4)), (6, .int (zI f6)), (7, .int (zI g7))]) X (by decide) rfl dL_envelope_200 ?_
                          refine vv_iload X 0 rfl dL_envelope_202 ?_
                          refine vv_if_eq (tgt := 219) X (by omega) dL_envelope_204 (by decide) (fun c_204 => ?_) (fun c_204 => ?_)
                          · skip
                            omega
                          · skip
                            refine vv_iload X 7 rfl dL_envelope_207 ?_
                            refine vv_sipush (n := 1000) X (by decide) dL_envelope_209 ?_
                            refine vv_iload X 8 rfl dL_envelope_212 ?_
                            refine vv_imul X dL_envelope_214 ?_
                            refine vv_iadd X dL_envelope_215 ?_
                            refine vv_goto (tgt := 221) X (by decide) dL_envelope_216 ?_
                            refine vv_istore (lv' := [(4, .int (zI (f6 + (1000 * g7)))), (5, .int (zI 1)), (8, .int (zI (((g7 - x) * z158) + ((x - f6) * z170)))), (0, .int (zI x)), (1, .ref (ad 105)), (2, .ref (ad 106)), (3, .ref (ad 109)), (6, .int (zI f6)), (7, .int (zI g7))]) X (by decide) rfl dL_envelope_221 ?_
                            refine vv_iinc (lv' := [(7, .int (zI (g7 + 1))), (4, .int (zI (f6 + (1000 * g7)))), (5, .int (zI 1)), (8, .int (zI (((g7 - x) * z158) + ((x - f6) * z170)))), (0, .int (zI x)), (1, .ref (ad 105)), (2, .ref (ad 106)), (3, .ref (ad 109)), (6, .int (zI f6))]) X 8 rfl (by decide) rfl dL_envelope_223 ?_
                            refine vv_goto (tgt := 138) X (by decide) dL_envelope_226 ?_
                            refine vv_sub (lv' := [(0, .int (zI x)), (1, .ref (ad 105)), (2, .ref (ad 106)), (3, .ref (ad 109)), (4, .int (zI (f6 + (1000 * g7)))), (5, .int (zI 1)), (6, .int (zI f6)), (7, .int (zI (g7 + 1)))]) [4, 5, 6, 7, 1, 2, 8, 0] rfl ?_
                            exact ih_138 (f6 + (1000 * g7)) 1 (g7 + 1) (by omega) (by
                              have g0 : g5 = 0 := by omega
                              subst g0
                              exact FND_yes iF hok (by omega) (by rw [eN, eD]; omega) (fun a b q1 q2 => by rcases q1 with q1 | q1 <;> omega)) (by omega)
                refine vv_sub (lv' := [(0, .int (zI x)), (1, .ref (ad 105)), (2, .ref (ad 106)), (3, .ref (ad 109)), (4, .int (zI f4)), (5, .int (zI f5)), (6, .int (zI f6)), (7, .int (zI (x + 1)))]) [1, 2, 3, 4, 5, 6, 7, 0] rfl ?_
                exact loop_138 _ f4 f5 (x + 1) (by omega) (FND_w jF (fun z a b g1 g2 g3 => by rcases g3 with g3 | g3; exact g3; rcases g1 with g1 | g1 <;> omega)) (Nat.lt_succ_self _)
        refine vv_sub (lv' := [(0, .int (zI x)), (1, .ref (ad 105)), (2, .ref (ad 106)), (3, .ref (ad 109)), (4, .int (zI (x + (1000 * x)))), (5, .int (zI 0)), (6, .int (zI 0))]) [2, 3, 4, 5, 6, 1, 0] rfl ?_
        exact loop_122 _ (x + (1000 * x)) 0 0 (by omega) (Or.inl ⟨rfl, rfl, fun a b g1 g2 g3 => by rcases g1 with g1 | g1 <;> omega⟩) (Nat.lt_succ_self _)
      · skip
        refine vv_iload_n X 0 rfl rfl dL_envelope_31 ?_
        refine vv_iconst (n := 1) X dL_envelope_32 ?_
        refine vv_iadd X dL_envelope_33 ?_
        refine vv_istore (lv' := [(6, .int (zI (x + 1))), (0, .int (zI x)), (1, .ref (ad 105)), (2, .ref (ad 106)), (3, .ref (ad 109)), (4, .int (zI (x + (1000 * x)))), (5, .int (zI a5))]) X (by decide) rfl dL_envelope_34 ?_
        have loop_36 : ∀ (n : Nat) (M_36 : Mem) (lo2 : Int) (hi2 : Int) (a6 : Int), M_36 = up2 (up2 M 109 0 (sN (rvl M) x lo2 hi2)) 109 1 (sD lo2 hi2) → x + 1 ≤ a6 ∧ a6 ≤ 101 → MaxIn (rvl M) x lo2 hi2 (fun a b => ((a = x ∧ b = x) ∨ a < a5) ∨ (a = a5 ∧ b < a6)) → (101 - a6).toNat < n → VV p l e { frames := 2, cells := 0, slots := 0, locals := 50 } s m args below meth c 9 D ad cA (Afr ad s.heap.size) 0 0 (QI below args s D ad cA (fun z M1 => ∃ lo hi : Int, isB (rvl M) x lo hi ∧ z = lo + 1000 * hi ∧ M1 = up2 (up2 M 109 0 (frA (sN (rvl M) x lo hi) (sD lo hi))) 109 1 (frB (sN (rvl M) x lo hi) (sD lo hi)))) M_36 36 [(0, .int (zI x)), (1, .ref (ad 105)), (2, .ref (ad 106)), (3, .ref (ad 109)), (4, .int (zI (x + (1000 * x)))), (5, .int (zI a5)), (6, .int (zI a6))] [] := by
          intro n
          induction n with
          | zero => intro M_36 lo2 hi2 a6 kM k6 kB hn; exact absurd hn (Nat.not_lt_zero _)
          | succ n ih_36 =>
            intro M_36 lo2 hi2 a6 kM k6 kB hn
            have e_36_105 : M_36 105 = M 105 := by rw [kM]; rfl
            have e_36_106 : M_36 106 = M 106 := by rw [kM]; rfl
            have hWk : rWR M_36 := by unfold rWR rL rG rP rB; rw [e_36_105, e_36_106]; exact hW
            have hvk : ∀ y : Int, rvl M_36 y = rvl M y := fun y => by unfold rvl rL rG rP rB; rw [e_36_105, e_36_106]
            have hk0 := kB.1
            have hd0 := sD_pos hk0
            refine vv_iload X 6 rfl dL_envelope_36 ?_
            refine vv_bipush (n := 100) X (by decide) dL_envelope_38 ?_
            refine vv_icmp_gt (tgt := 110) X (by omega) (by omega) dL_envelope_40 (by decide) (fun c_40 => ?_) (fun c_40 => ?_)
            · skip
              refine vv_iinc (lv' := [(5, .int (zI (a5 + 1))), (0, .int (zI x)), (1, .ref (ad 105)), (2, .ref (ad 106)), (3, .ref (ad 109)), (4, .int (zI (x + (1000 * x)))), (6, .int (zI a6))]) X 5 rfl (by decide) rfl dL_envelope_110 ?_
              refine vv_goto (tgt := 25) X (by decide) dL_envelope_113 ?_
              refine vv_sub (lv' := [(0, .int (zI x)), (1, .ref (ad 105)), (2, .ref (ad 106)), (3, .ref (ad 109)), (4, .int (zI (x + (1000 * x)))), (5, .int (zI (a5 + 1)))]) [1, 2, 3, 4, 5, 0] rfl ?_
              exact ih_25 M_36 lo2 hi2 (a5 + 1) kM (by omega) (MaxIn_w kB (fun a b ha hq => by
                rcases ha with ha | ha
                · exact Or.inl (Or.inl ha)
                · rcases hq with hq | hq
                  · exact Or.inl (Or.inl hq)
                  · rcases (show a = a5 ∨ a < a5 by omega) with q | q
                    · exact Or.inr ⟨q, by omega⟩
                    · exact Or.inl (Or.inr q))) (by omega)
            · skip
              refine vv_iload X 6 rfl dL_envelope_43 ?_
              refine vv_iload_n X 0 rfl rfl dL_envelope_45 ?_
              refine vv_isub X dL_envelope_46 ?_
              refine vv_iload X 5 rfl dL_envelope_47 ?_
              refine vv_aload_n X 1 rfl rfl dL_envelope_49 ?_
              refine vv_aload_n X 2 rfl rfl dL_envelope_50 ?_
              refine vv_callSI (As := [.int (zI a5), .ref (ad 105), .ref (ad 106)]) (st := [.int (zI (a6 - x))]) X 3 (c_L_value l D cA had M_36 a5 (by omega) (hWk)) gL_envelope_L_value rfl (by decide +kernel) ⟨by decide, by decide⟩ (Nat.le_of_ble_eq_true rfl) ⟨by decide, by decide⟩ rfl rfl dL_envelope_51 (fun z51 Mc51 q_51 => ?_)
              obtain ⟨e_z51, g_z51⟩ := q_51
              have g_z51 := g_z51.symm
              subst g_z51
              refine vv_imul X dL_envelope_54 ?_
              refine vv_iload_n X 0 rfl rfl dL_envelope_55 ?_
              refine vv_iload X 5 rfl dL_envelope_56 ?_
              refine vv_isub X dL_envelope_58 ?_
              refine vv_iload X 6 rfl dL_envelope_59 ?_
              refine vv_aload_n X 1 rfl rfl dL_envelope_61 ?_
              refine vv_aload_n X 2 rfl rfl dL_envelope_62 ?_
              refine vv_callSI (As := [.int (zI a6), .ref (ad 105), .ref (ad 106)]) (st := [.int (zI (x - a5)), .int (zI ((a6 - x) * z51))]) X 3 (c_L_value l D cA had M_36 a6 (by omega) (hWk)) gL_envelope_L_value rfl (by decide +kernel) ⟨by decide, by decide⟩ (Nat.le_of_ble_eq_true rfl) ⟨by decide, by decide⟩ rfl rfl dL_envelope_63 (fun z63 Mc63 q_63 => ?_)
              obtain ⟨e_z63, g_z63⟩ := q_63
              have g_z63 := g_z63.symm
              subst g_z63
              rw [hvk] at e_z51 e_z63
              have hok : okS x a5 a6 := Or.inr ⟨by omega, by omega⟩
              have eN : sN (rvl M) x a5 a6 = (a6 - x) * z51 + (x - a5) * z63 := by unfold sN; rw [if_neg (by omega), e_z51, e_z63]
              have eD : sD a5 a6 = a6 - a5 := by unfold sD; rw [if_neg (by omega)]
              have v1 := hvb a5
              have v2 := hvb a6
              have m1 := mulS (a := a6 - x) (A := 100) (b := z51) (B := 990) (by omega) (by omega)
              have m2 := mulS (a := x - a5) (A := 100) (b := z63) (B := 990) (by omega) (by omega)
              have hsN : -198000 ≤ sN (rvl M) x lo2 hi2 ∧ sN (rvl M) x lo2 hi2 ≤ 198000 := sN_b hvb hx hk0
              have hsD := sD_b hx hk0
              have m3 := mulSS (a := (a6 - x) * z51 + (x - a5) * z63) (A := 198000) (b := sD lo2 hi2) (B := 100) (by omega) (by omega)
              have m4 := mulSS (a := sN (rvl M) x lo2 hi2) (A := 198000) (b := a6 - a5) (B := 100) (by omega) (by omega)
              refine vv_imul X dL_envelope_66 ?_
              refine vv_iadd X dL_envelope_67 ?_
              refine vv_istore (lv' := [(7, .int (zI (((a6 - x) * z51) + ((x - a5) * z63)))), (0, .int (zI x)), (1, .ref (ad 105)), (2, .ref (ad 106)), (3, .ref (ad 109)), (4, .int (zI (x + (1000 * x)))), (5, .int (zI a5)), (6, .int (zI a6))]) X (by decide) rfl dL_envelope_68 ?_
              refine vv_iload X 0 rfl dL_envelope_70 ?_
              refine vv_aload_n X 4 rfl rfl dL_envelope_72 ?_
              refine vv_iconst (n := 1) X dL_envelope_73 ?_
              refine vv_iald (z := (sD lo2 hi2)) X (by decide) sh_109 (by decide) (by omega) (by rw [kM]; rfl) dL_envelope_74 ?_
              refine vv_imul X dL_envelope_75 ?_
              refine vv_aload_n X 4 rfl rfl dL_envelope_76 ?_
              refine vv_iconst (n := 0) X dL_envelope_77 ?_
              refine vv_iald (z := (sN (rvl M) x lo2 hi2)) X (by decide) sh_109 (by decide) (by omega) (by rw [kM]; rfl) dL_envelope_78 ?_
              refine vv_iload X 7 rfl dL_envelope_79 ?_
              refine vv_iload X 6 rfl dL_envelope_81 ?_
              refine vv_isub X dL_envelope_83 ?_
              refine vv_imul X dL_envelope_84 ?_
              refine vv_icmp_gt (tgt := 91) X (by omega) (by omega) dL_envelope_85 (by decide) (fun c_85 => ?_) (fun c_85 => ?_)
              · skip
                refine vv_aload_n X 4 rfl rfl dL_envelope_91 ?_
                refine vv_iconst (n := 0) X dL_envelope_92 ?_
                refine vv_iload X 0 rfl dL_envelope_93 ?_
                refine vv_iast (ix := 0) X (by decide) sh_109 (by decide) (by omega) (rfl) dL_envelope_95 ?_
                refine vv_aload_n X 4 rfl rfl dL_envelope_96 ?_
                refine vv_iconst (n := 1) X dL_envelope_97 ?_
                refine vv_iload X 7 rfl dL_envelope_98 ?_
                refine vv_iload X 6 rfl dL_envelope_100 ?_
                refine vv_isub X dL_envelope_102 ?_
                refine vv_iast (ix := 1) X (by decide) sh_109 (by decide) (by omega) (rfl) dL_envelope_103 ?_
                refine vv_iinc (lv' := [(6, .int (zI (a6 + 1))), (7, .int (zI (((a6 - x) * z51) + ((x - a5) * z63)))), (0, .int (zI x)), (1, .ref (ad 105)), (2, .ref (ad 106)), (3, .ref (ad 109)), (4, .int (zI (x + (1000 * x)))), (5, .int (zI a5))]) X 7 rfl (by decide) rfl dL_envelope_104 ?_
                refine vv_goto (tgt := 36) X (by decide) dL_envelope_107 ?_
                refine vv_sub (lv' := [(0, .int (zI x)), (1, .ref (ad 105)), (2, .ref (ad 106)), (3, .ref (ad 109)), (4, .int (zI (x + (1000 * x)))), (5, .int (zI a5)), (6, .int (zI (a6 + 1)))]) [2, 3, 4, 5, 6, 7, 0] rfl ?_
                exact ih_36 (up2 (up2 M_36 109 0 (((a6 - x) * z51) + ((x - a5) * z63))) 109 1 (a6 - a5)) a5 a6 (a6 + 1) (by rw [kM, up_pair (by decide), eN, eD]) (by omega) (MaxIn_w (MaxIn_yes kB (l := a5) (h2 := a6) hok (by rw [eN, eD]; omega)) (fun a b ha hq => by
                  rcases hq with hq | hq
                  · exact Or.inl (Or.inl hq)
                  · rcases (show b = a6 ∨ b < a6 by omega) with q | q
                    · exact Or.inr ⟨hq.1, q⟩
                    · exact Or.inl (Or.inr ⟨hq.1, q⟩))) (by omega)
              · skip
                refine vv_goto (tgt := 104) X (by decide) dL_envelope_88 ?_
                refine vv_iinc (lv' := [(6, .int (zI (a6 + 1))), (7, .int (zI (((a6 - x) * z51) + ((x - a5) * z63)))), (0, .int (zI x)), (1, .ref (ad 105)), (2, .ref (ad 106)), (3, .ref (ad 109)), (4, .int (zI (x + (1000 * x)))), (5, .int (zI a5))]) X 7 rfl (by decide) rfl dL_envelope_104 ?_
                refine vv_goto (tgt := 36) X (by decide) dL_envelope_107 ?_
                refine vv_sub (lv' := [(0, .int (zI x)), (1, .ref (ad 105)), (2, .ref (ad 106)), (3, .ref (ad 109)), (4, .int (zI (x + (1000 * x)))), (5, .int (zI a5)), (6, .int (zI (a6 + 1)))]) [2, 3, 4, 5, 6, 7, 0] rfl ?_
                exact ih_36 M_36 lo2 hi2 (a6 + 1) kM (by omega) (MaxIn_w (MaxIn_no kB (l := a5) (h2 := a6) (by rw [eN, eD]; omega)) (fun a b ha hq => by
                  rcases hq with hq | hq
                  · exact Or.inl (Or.inl hq)
                  · rcases (show b = a6 ∨ b < a6 by omega) with q | q
                    · exact Or.inr ⟨hq.1, q⟩
                    · exact Or.inl (Or.inr ⟨hq.1, q⟩))) (by omega)
        refine vv_sub (lv' := [(0, .int (zI x)), (1, .ref (ad 105)), (2, .ref (ad 106)), (3, .ref (ad 109)), (4, .int (zI (x + (1000 * x)))), (5, .int (zI a5)), (6, .int (zI (x + 1)))]) [1, 2, 3, 4, 5, 6, 0] rfl ?_
        exact loop_36 _ M_25 lo hi (x + 1) hM (by omega) (MaxIn_w hB (fun a b ha hq => by rcases hq with hq | hq; exact hq; rcases ha with ha | ha <;> omega)) (Nat.lt_succ_self _)
  refine vv_sub (lv' := [(0, .int (zI x)), (1, .ref (ad 105)), (2, .ref (ad 106)), (3, .ref (ad 109)), (4, .int (zI (x + (1000 * x)))), (5, .int (zI 0))]) [2, 3, 4, 5, 1, 0] rfl ?_
  exact loop_25 _ (up2 (up2 M 109 0 z14) 109 1 1) x x 0 (by rw [e_z14, show sN (rvl M) x x x = rvl M x from if_pos rfl, show sD x x = 1 from if_pos rfl]) (by omega) (MaxIn_w MaxIn_0 (fun a b ha hq => by rcases hq with hq | hq; exact hq; rcases ha with ha | ha <;> omega)) (Nat.lt_succ_self _)
