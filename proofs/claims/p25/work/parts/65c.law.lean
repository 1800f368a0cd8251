set_option maxRecDepth 100000 in
set_option maxHeartbeats 4000000 in
theorem same_B {p : Program} {l : Launch} {e : Env} {s : State} {m : MethodId} {args : Array Value} {below : List Frame} {meth : Method} {c : Code} {D : va_G} {ad : Nat → Nat} {cA : Nat → ClassId} (X : Cx p s m args c cL_same yL_same.cls 17 wsL_same D ad cA (Afr ad s.heap.size)) (hm : Mt meth (some .boolean)) {x a7 a8 : Int} (M Ms : Mem) (hR : RLL M) (hs : eqx M Ms E9) (e7 : a7 = mnT (vL M)) (nx : ∀ N : Mem, eqx M N E9 → VV p l e { frames := 6, cells := 0, slots := 0, locals := 133 } s m args below meth c 17 D ad cA (Afr ad s.heap.size) 0 0 (QI below args s D ad cA (fun z M1 => z = 1 ∧ eqx M M1 E9)) N 372 [(0, .ref (ad 90)), (1, .int (zI x)), (2, .ref (ad 105)), (3, .ref (ad 106)), (4, .ref (ad 107)), (5, .ref (ad 108)), (6, .ref (ad 109)), (7, .int (zI a7)), (8, .int (zI a8))] []) : VV p l e { frames := 6, cells := 0, slots := 0, locals := 133 } s m args below meth c 17 D ad cA (Afr ad s.heap.size) 0 0 (QI below args s D ad cA (fun z M1 => z = 1 ∧ eqx M M1 E9)) Ms 130 [(0, .ref (ad 90)), (1, .int (zI x)), (2, .ref (ad 105)), (3, .ref (ad 106)), (4, .ref (ad 107)), (5, .ref (ad 108)), (6, .ref (ad 109)), (7, .int (zI a7)), (8, .int (zI a8))] [] := by
  have had := X.2.2.2.1
  have hwl := RLL_wl hR
  have hW : rWR M := hwl.2.1
  have h5 := hW.2.1
  have h50 := hW.1
  have hsm : 1 ≤ M 105 2 ∧ M 105 2 ≤ 6 := WFs_pos hwl.2.2
  have hwb : ∀ k : Nat, (k : Int) < M 105 2 → (1 ≤ M 107 k ∧ M 107 k ≤ 999) ∧ (0 ≤ M 108 k ∧ M 108 k ≤ 100) := fun k hk => WFs_b hwl.2.2 hk
  have hp9 : 1 ≤ M 105 0 ∧ M 105 0 ≤ 99 := hwl.1
  have hvb : ∀ y : Int, -495 ≤ rvl M y ∧ rvl M y ≤ 990 := fun y => vl_b hW.2
  refine vv_iconst (n := 0) X dL_same_130 ?_
  refine vv_istore (lv' := [(9, .int (zI 0)), (0, .ref (ad 90)), (1, .int (zI x)), (2, .ref (ad 105)), (3, .ref (ad 106)), (4, .ref (ad 107)), (5, .ref (ad 108)), (6, .ref (ad 109)), (7, .int (zI a7)), (8, .int (zI a8))]) X (by decide) rfl dL_same_131 ?_
  have loop_133 : ∀ (n : Nat) (M_133 : Mem) (r : Nat) (r9 : Int), r9 = (r : Int) → (r : Int) ≤ M 105 1 → eqx M M_133 E9 → (M 105 1 - r9).toNat < n → VV p l e { frames := 6, cells := 0, slots := 0, locals := 133 } s m args below meth c 17 D ad cA (Afr ad s.heap.size) 0 0 (QI below args s D ad cA (fun z M1 => z = 1 ∧ eqx M M1 E9)) M_133 133 [(0, .ref (ad 90)), (1, .int (zI x)), (2, .ref (ad 105)), (3, .ref (ad 106)), (4, .ref (ad 107)), (5, .ref (ad 108)), (6, .ref (ad 109)), (7, .int (zI a7)), (8, .int (zI a8)), (9, .int (zI r9))] [] := by
    intro n
    induction n with
    | zero => intro M_133 r r9 g9 gr hE133 hn; exact absurd hn (Nat.not_lt_zero _)
    | succ n ih_133 =>
      intro M_133 r r9 g9 gr hE133 hn
      have e_133_105 : M_133 105 = M 105 := hE133 105 (by decide)
      have e_133_106 : M_133 106 = M 106 := hE133 106 (by decide)
      have e_133_107 : M_133 107 = M 107 := hE133 107 (by decide)
      have e_133_108 : M_133 108 = M 108 := hE133 108 (by decide)
      have i91 : r9.toNat = r := by omega
      have j0 : (4 * r9).toNat = 4 * r := by omega
      have j1 : (4 * r9 + 1).toNat = 4 * r + 1 := by omega
      have j2 : (4 * r9 + 2).toNat = 4 * r + 2 := by omega
      have j3 : (4 * r9 + 3).toNat = 4 * r + 3 := by omega
      have hwr : (r : Int) < M 105 1 → (1 ≤ M 106 (4 * r) ∧ M 106 (4 * r) ≤ 99) ∧ (1 ≤ M 106 (4 * r + 1) ∧ M 106 (4 * r + 1) ≤ 99) ∧ (0 ≤ M 106 (4 * r + 2) ∧ M 106 (4 * r + 2) ≤ 99) ∧ (-99 ≤ M 106 (4 * r + 3) ∧ M 106 (4 * r + 3) ≤ 99) := fun q => hW.2.2 r (by omega)
      have hW133 := W_E9 hW hE133
      refine vv_iload X 9 rfl dL_same_133 ?_
      refine vv_aload_n X 2 rfl rfl dL_same_135 ?_
      refine vv_iconst (n := 1) X dL_same_136 ?_
      refine vv_iald (z := (M 105 1)) X (by decide) sh_105 (by decide) (by omega) (show M_133 105 1 = M 105 1 from by rw [e_133_105]) dL_same_137 ?_
      refine vv_icmp_ge (tgt := 372) X (by omega) (by omega) dL_same_138 (by decide) (fun c_138 => ?_) (fun c_138 => ?_)
      · skip
        refine vv_sub (lv' := [(0, .ref (ad 90)), (1, .int (zI x)), (2, .ref (ad 105)), (3, .ref (ad 106)), (4, .ref (ad 107)), (5, .ref (ad 108)), (6, .ref (ad 109)), (7, .int (zI a7)), (8, .int (zI a8))]) [0, 1, 2, 3, 4, 5, 6, 7, 8] rfl ?_
        exact nx M_133 hE133
      · skip
        refine vv_iconst (n := 0) X dL_same_141 ?_
        refine vv_istore (lv' := [(10, .int (zI 0)), (0, .ref (ad 90)), (1, .int (zI x)), (2, .ref (ad 105)), (3, .ref (ad 106)), (4, .ref (ad 107)), (5, .ref (ad 108)), (6, .ref (ad 109)), (7, .int (zI a7)), (8, .int (zI a8)), (9, .int (zI r9))]) X (by decide) rfl dL_same_142 ?_
        refine vv_iconst (n := 0) X dL_same_144 ?_
        refine vv_istore (lv' := [(11, .int (zI 0)), (10, .int (zI 0)), (0, .ref (ad 90)), (1, .int (zI x)), (2, .ref (ad 105)), (3, .ref (ad 106)), (4, .ref (ad 107)), (5, .ref (ad 108)), (6, .ref (ad 109)), (7, .int (zI a7)), (8, .int (zI a8)), (9, .int (zI r9))]) X (by decide) rfl dL_same_145 ?_
        refine vv_iconst (n := 0) X dL_same_147 ?_
        refine vv_istore (lv' := [(12, .int (zI 0)), (11, .int (zI 0)), (10, .int (zI 0)), (0, .ref (ad 90)), (1, .int (zI x)), (2, .ref (ad 105)), (3, .ref (ad 106)), (4, .ref (ad 107)), (5, .ref (ad 108)), (6, .ref (ad 109)), (7, .int (zI a7)), (8, .int (zI a8)), (9, .int (zI r9))]) X (by decide) rfl dL_same_148 ?_
        have loop_150 : ∀ (n : Nat)  (t : Nat) (b10 : Int) (b12 : Int), b12 = (t : Int) → (t : Int) ≤ M 105 2 → b10 = sm (woT M r) t → (M 105 2 - b12).toNat < n → VV p l e { frames := 6, cells := 0, slots := 0, locals := 133 } s m args below meth c 17 D ad cA (Afr ad s.heap.size) 0 0 (QI below args s D ad cA (fun z M1 => z = 1 ∧ eqx M M1 E9)) M_133 150 [(0, .ref (ad 90)), (1, .int (zI x)), (2, .ref (ad 105)), (3, .ref (ad 106)), (4, .ref (ad 107)), (5, .ref (ad 108)), (6, .ref (ad 109)), (7, .int (zI a7)), (8, .int (zI a8)), (9, .int (zI r9)), (10, .int (zI b10)), (11, .int (zI 0)), (12, .int (zI b12))] [] := by
          intro n
          induction n with
          | zero => intro t b10 b12 n12 nt n10 hn; exact absurd hn (Nat.not_lt_zero _)
          | succ n ih_150 =>
            intro t b10 b12 n12 nt n10 hn
            have it : b12.toNat = t := by omega
            have hwt : (t : Int) < M 105 2 → (1 ≤ M 107 t ∧ M 107 t ≤ 999) ∧ (0 ≤ M 108 t ∧ M 108 t ≤ 100) := hwb t
            refine vv_iload X 12 rfl dL_same_150 ?_
            refine vv_aload_n X 2 rfl rfl dL_same_152 ?_
            refine vv_iconst (n := 2) X dL_same_153 ?_
            refine vv_iald (z := (M 105 2)) X (by decide) sh_105 (by decide) (by omega) (show M_133 105 2 = M 105 2 from by rw [e_133_105]) dL_same_154 ?_
            refine vv_icmp_ge (tgt := 218) X (by omega) (by omega) dL_same_155 (by decide) (fun c_155 => ?_) (fun c_155 => ?_)
            · skip
              have et : (M 105 2).toNat = t := by omega
              have e10 : b10 = woS (vL M) r := by rw [n10, ← et]; rfl
              have hw7 := hwr (by omega)
              have wb10 : 0 ≤ b10 ∧ b10 ≤ 100000000 := by
                rw [n10]
                exact woT_b (fun i hi => hwb i (by omega)) hw7.1 hw7.2.1 (by omega)
              have loop_218 : ∀ (n : Nat)  (f11 : Int), 0 ≤ f11 ∧ f11 ≤ 100 → (∀ y : Int, 0 ≤ y → y < f11 → ¬ ac (rL M) (rG M) y r) → (100 - f11).toNat < n → VV p l e { frames := 6, cells := 0, slots := 0, locals := 133 } s m args below meth c 17 D ad cA (Afr ad s.heap.size) 0 0 (QI below args s D ad cA (fun z M1 => z = 1 ∧ eqx M M1 E9)) M_133 218 [(0, .ref (ad 90)), (1, .int (zI x)), (2, .ref (ad 105)), (3, .ref (ad 106)), (4, .ref (ad 107)), (5, .ref (ad 108)), (6, .ref (ad 109)), (7, .int (zI a7)), (8, .int (zI a8)), (9, .int (zI r9)), (10, .int (zI b10)), (11, .int (zI f11))] [] := by
                intro n
                induction n with
                | zero => intro f11 hf hfy hn; exact absurd hn (Nat.not_lt_zero _)
                | succ n ih_218 =>
                  intro f11 hf hfy hn
                  refine vv_iload X 11 rfl dL_same_218 ?_
                  refine vv_aload_n X 2 rfl rfl dL_same_220 ?_
                  refine vv_aload_n X 3 rfl rfl dL_same_221 ?_
                  refine vv_callSI (As := [.int (zI f11), .ref (ad 105), .ref (ad 106)]) (st := []) X 3 (c_L_acting l D cA had M_133 f11 (by omega) (hW133)) gL_same_L_acting rfl (by decide +kernel) ⟨by decide, by decide⟩ (Nat.le_of_ble_eq_true rfl) ⟨by decide, by decide⟩ rfl rfl dL_same_222 (fun z222 Mc222 q_222 => ?_)
                  obtain ⟨e_z222, g_z222⟩ := q_222
                  have g_z222 := g_z222.symm
                  subst g_z222
                  rw [mk_E9 hE133] at e_z222
                  have hs9 : 0 ≤ z222 ∧ z222 < 32 := by rw [e_z222]; exact mk_32 h5
                  have hbit : z222 / ((2 ^ r : Nat) : Int) % 2 = if ac (rL M) (rG M) f11 r then 1 else 0 := by rw [e_z222]; exact mk_bit (by omega)
                  have hq0 : 0 ≤ z222 / ((2 ^ r : Nat) : Int) ∧ z222 / ((2 ^ r : Nat) : Int) < 32 := ⟨Int.ediv_nonneg hs9.1 (Int.natCast_nonneg _), Int.lt_of_le_of_lt (Int.ediv_le_self _ hs9.1) hs9.2⟩
                  refine vv_iload X 9 rfl dL_same_225 ?_
                  refine vv_ishr (a := (z222 / ((2 ^ r : Nat) : Int))) X (by rw [g9]; exact bit1 z222 hs9 r (by omega)) dL_same_227 ?_
                  refine vv_iconst (n := 1) X dL_same_228 ?_
                  refine vv_iand (a := (z222 / ((2 ^ r : Nat) : Int) % 2)) X (bit2 _ hq0) dL_same_229 ?_
                  refine vv_if_ne (tgt := 239) X (by rw [hbit]; split <;> omega) dL_same_230 (by decide) (fun c_230 => ?_) (fun c_230 => ?_)
                  · skip
                    have hya : ac (rL M) (rG M) f11 r := Classical.byContradiction fun q => by rw [if_neg q] at hbit; omega
                    refine vv_sub (lv' := [(0, .ref (ad 90)), (1, .int (zI x)), (2, .ref (ad 105)), (3, .ref (ad 106)), (4, .ref (ad 107)), (5, .ref (ad 108)), (6, .ref (ad 109)), (7, .int (zI a7)), (8, .int (zI a8)), (9, .int (zI r9)), (10, .int (zI b10)), (11, .int (zI f11))]) [0, 1, 2, 3, 4, 5, 6, 7, 8, 9, 10, 11] rfl ?_
                    refine same_B1 X hm M M_133 hR hE133 g9 (by omega) e7 e10 wb10 hf hya hfy (fun N239 h239 => ?_)
                    refine vv_iinc (lv' := [(9, .int (zI (r9 + 1))), (0, .ref (ad 90)), (1, .int (zI x)), (2, .ref (ad 105)), (3, .ref (ad 106)), (4, .ref (ad 107)), (5, .ref (ad 108)), (6, .ref (ad 109)), (7, .int (zI a7)), (8, .int (zI a8))]) X 9 rfl (by decide) rfl dL_same_366 ?_
                    refine vv_goto (tgt := 133) X (by decide) dL_same_369 ?_
                    refine vv_sub (lv' := [(0, .ref (ad 90)), (1, .int (zI x)), (2, .ref (ad 105)), (3, .ref (ad 106)), (4, .ref (ad 107)), (5, .ref (ad 108)), (6, .ref (ad 109)), (7, .int (zI a7)), (8, .int (zI a8)), (9, .int (zI (r9 + 1)))]) [1, 2, 3, 4, 5, 6, 7, 8, 9, 0] rfl ?_
                    exact ih_133 N239 (r + 1) (r9 + 1) (by omega) (by omega) h239 (by omega)
                  · skip
                    have hna : ¬ ac (rL M) (rG M) f11 r := fun q => by rw [if_pos q] at hbit; omega
                    have hlt : f11 < 100 := by
                      rcases (show f11 < 100 ∨ f11 = 100 by omega) with q | q
                      · exact q
                      · exfalso
                        rw [q] at hna
                        exact hna (show (100 - 100 : Int) * M 106 (4 * r) ≤ 100 * M 106 (4 * r + 1) by omega)
                    refine vv_iinc (lv' := [(11, .int (zI (f11 + 1))), (0, .ref (ad 90)), (1, .int (zI x)), (2, .ref (ad 105)), (3, .ref (ad 106)), (4, .ref (ad 107)), (5, .ref (ad 108)), (6, .ref (ad 109)), (7, .int (zI a7)), (8, .int (zI a8)), (9, .int (zI r9)), (10, .int (zI b10))]) X 11 rfl (by decide) rfl dL_same_233 ?_
                    refine vv_goto (tgt := 218) X (by decide) dL_same_236 ?_
                    refine vv_sub (lv' := [(0, .ref (ad 90)), (1, .int (zI x)), (2, .ref (ad 105)), (3, .ref (ad 106)), (4, .ref (ad 107)), (5, .ref (ad 108)), (6, .ref (ad 109)), (7, .int (zI a7)), (8, .int (zI a8)), (9, .int (zI r9)), (10, .int (zI b10)), (11, .int (zI (f11 + 1)))]) [1, 2, 3, 4, 5, 6, 7, 8, 9, 10, 11, 0] rfl ?_
                    exact ih_218 (f11 + 1) (by omega) (fun y q1 q2 => by
                      rcases (show y < f11 ∨ y = f11 by omega) with q | q
                      · exact hfy y q1 q
                      · rw [q]; exact hna) (by omega)
              refine vv_sub (lv' := [(0, .ref (ad 90)), (1, .int (zI x)), (2, .ref (ad 105)), (3, .ref (ad 106)), (4, .ref (ad 107)), (5, .ref (ad 108)), (6, .ref (ad 109)), (7, .int (zI a7)), (8, .int (zI a8)), (9, .int (zI r9)), (10, .int (zI b10)), (11, .int (zI 0))]) [0, 1, 2, 3, 4, 5, 6, 7, 8, 9, 10, 11] rfl ?_
              exact loop_218 _ 0 (by omega) (fun y q1 q2 => absurd q2 (by omega)) (Nat.lt_succ_self _)
            · skip
              have hw8 := hwr (by omega)
              have hw6 := hwt (by omega)
              have mm1 := mulB (a := M 108 t) (A := 100) (b := M 106 (4 * r + 1)) (B := 99) (by omega) (by omega)
              have mm2 := mulB (a := 100 - M 108 t) (A := 100) (b := M 106 (4 * r)) (B := 99) (by omega) (by omega)
              refine vv_aload X 5 rfl dL_same_158 ?_
              refine vv_iload X 12 rfl dL_same_160 ?_
              refine vv_iald (z := (M 108 t)) X (by decide) sh_108 (by decide) (by omega) (by first | (rw [it]; done) | (rw [it]; exact (show M_133 108 t = M 108 t from by rw [e_133_108]))) dL_same_162 ?_
              refine vv_aload_n X 3 rfl rfl dL_same_163 ?_
              refine vv_iconst (n := 4) X dL_same_164 ?_
              refine vv_iload X 9 rfl dL_same_165 ?_
              refine vv_imul X dL_same_167 ?_
              refine vv_iconst (n := 1) X dL_same_168 ?_
              refine vv_iadd X dL_same_169 ?_
              refine vv_iald (z := (M 106 (4 * r + 1))) X (by decide) sh_106 (by decide) (by omega) (by first | (rw [j1]; done) | (rw [j1]; exact (show M_133 106 (4 * r + 1) = M 106 (4 * r + 1) from by rw [e_133_106]))) dL_same_170 ?_
              refine vv_imul X dL_same_171 ?_
              refine vv_bipush (n := 100) X (by decide) dL_same_172 ?_
              refine vv_aload X 5 rfl dL_same_174 ?_
              refine vv_iload X 12 rfl dL_same_176 ?_
              refine vv_iald (z := (M 108 t)) X (by decide) sh_108 (by decide) (by omega) (by first | (rw [it]; done) | (rw [it]; exact (show M_133 108 t = M 108 t from by rw [e_133_108]))) dL_same_178 ?_
              refine vv_isub X dL_same_179 ?_
              refine vv_aload_n X 3 rfl rfl dL_same_180 ?_
              refine vv_iconst (n := 4) X dL_same_181 ?_
              refine vv_iload X 9 rfl dL_same_182 ?_
              refine vv_imul X dL_same_184 ?_
              refine vv_iald (z := (M 106 (4 * r))) X (by decide) sh_106 (by decide) (by omega) (by first | (rw [j0]; done) | (rw [j0]; exact (show M_133 106 (4 * r) = M 106 (4 * r) from by rw [e_133_106]))) dL_same_185 ?_
              refine vv_imul X dL_same_186 ?_
              refine vv_isub X dL_same_187 ?_
              obtain ⟨by13, eby13⟩ : ∃ z : Int, (((M 108 t) * (M 106 (4 * r + 1))) - ((100 - (M 108 t)) * (M 106 (4 * r)))) = z := ⟨_, rfl⟩
              rw [eby13]
              refine vv_istore (lv' := [(13, .int (zI by13)), (0, .ref (ad 90)), (1, .int (zI x)), (2, .ref (ad 105)), (3, .ref (ad 106)), (4, .ref (ad 107)), (5, .ref (ad 108)), (6, .ref (ad 109)), (7, .int (zI a7)), (8, .int (zI a8)), (9, .int (zI r9)), (10, .int (zI b10)), (11, .int (zI 0)), (12, .int (zI b12))]) X (by decide) rfl dL_same_188 ?_
              refine vv_iload X 11 rfl dL_same_190 ?_
              refine vv_iload X 0 rfl dL_same_192 ?_
              refine vv_if_le (tgt := 208) X (by omega) dL_same_194 (by decide) (fun c_194 => ?_) (fun c_194 => ?_)
              · skip
                refine vv_iconst (n := 0) X dL_same_208 ?_
                refine vv_iadd X dL_same_209 ?_
                refine vv_istore (lv' := [(10, .int (zI (b10 + 0))), (13, .int (zI by13)), (0, .ref (ad 90)), (1, .int (zI x)), (2, .ref (ad 105)), (3, .ref (ad 106)), (4, .ref (ad 107)), (5, .ref (ad 108)), (6, .ref (ad 109)), (7, .int (zI a7)), (8, .int (zI a8)), (9, .int (zI r9)), (11, .int (zI 0)), (12, .int (zI b12))]) X (by decide) rfl dL_same_210 ?_
                refine vv_iinc (lv' := [(12, .int (zI (b12 + 1))), (10, .int (zI (b10 + 0))), (13, .int (zI by13)), (0, .ref (ad 90)), (1, .int (zI x)), (2, .ref (ad 105)), (3, .ref (ad 106)), (4, .ref (ad 107)), (5, .ref (ad 108)), (6, .ref (ad 109)), (7, .int (zI a7)), (8, .int (zI a8)), (9, .int (zI r9)), (11, .int (zI 0))]) X 13 rfl (by decide) rfl dL_same_212 ?_
                refine vv_goto (tgt := 150) X (by decide) dL_same_215 ?_
                refine vv_sub (lv' := [(0, .ref (ad 90)), (1, .int (zI x)), (2, .ref (ad 105)), (3, .ref (ad 106)), (4, .ref (ad 107)), (5, .ref (ad 108)), (6, .ref (ad 109)), (7, .int (zI a7)), (8, .int (zI a8)), (9, .int (zI r9)), (10, .int (zI (b10 + 0))), (11, .int (zI 0)), (12, .int (zI (b12 + 1)))]) [3, 4, 5, 6, 7, 8, 9, 10, 11, 12, 1, 13, 0] rfl ?_
                exact ih_150 (t + 1) (b10 + 0) (b12 + 1) (by omega) (by omega) (by
                  rw [n10]
                  show _ = sm (woT M r) t + M 107 t * (if (M 108 t * M 106 (4 * r + 1) - (100 - M 108 t) * M 106 (4 * r)) < 0 then 0 else (M 108 t * M 106 (4 * r + 1) - (100 - M 108 t) * M 106 (4 * r)))
                  rw [eby13]
                  by_cases q : by13 < 0
                  · rw [if_pos q, Int.mul_zero]
                  · rw [if_neg q, show by13 = 0 by omega, Int.mul_zero]) (by omega)
              · skip
                refine vv_aload X 5 rfl dL_same_197 ?_
                refine vv_iload X 13 rfl dL_same_199 ?_
                refine vv_iald (z := (M 107 t)) X (by decide) sh_107 (by decide) (by omega) (by first | (rw [it]; done) | (rw [it]; exact (show M_133 107 t = M 107 t from by rw [e_133_107]))) dL_same_201 ?_
                refine vv_iload X 0 rfl dL_same_202 ?_
                refine vv_imul X dL_same_204 ?_
                refine vv_goto (tgt := 209) X (by decide) dL_same_205 ?_
                refine vv_iadd X dL_same_209 ?_
                refine vv_istore (lv' := [(10, .int (zI (b10 + ((M 107 t) * by13)))), (13, .int (zI by13)), (0, .ref (ad 90)), (1, .int (zI x)), (2, .ref (ad 105)), (3, .ref (ad 106)), (4, .ref (ad 107)), (5, .ref (ad 108)), (6, .ref (ad 109)), (7, .int (zI a7)), (8, .int (zI a8)), (9, .int (zI r9)), (11, .int (zI 0)), (12, .int (zI b12))]) X (by decide) rfl dL_same_210 ?_
                refine vv_iinc (lv' := [(12, .int (zI (b12 + 1))), (10, .int (zI (b10 + ((M 107 t) * by13)))), (13, .int (zI by13)), (0, .ref (ad 90)), (1, .int (zI x)), (2, .ref (ad 105)), (3, .ref (ad 106)), (4, .ref (ad 107)), (5, .ref (ad 108)), (6, .ref (ad 109)), (7, .int (zI a7)), (8, .int (zI a8)), (9, .int (zI r9)), (11, .int (zI 0))]) X 13 rfl (by decide) rfl dL_same_212 ?_
                refine vv_goto (tgt := 150) X (by decide) dL_same_215 ?_
                refine vv_sub (lv' := [(0, .ref (ad 90)), (1, .int (zI x)), (2, .ref (ad 105)), (3, .ref (ad 106)), (4, .ref (ad 107)), (5, .ref (ad 108)), (6, .ref (ad 109)), (7, .int (zI a7)), (8, .int (zI a8)), (9, .int (zI r9)), (10, .int (zI (b10 + ((M 107 t) * by13)))), (11, .int (zI 0)), (12, .int (zI (b12 + 1)))]) [3, 4, 5, 6, 7, 8, 9, 10, 11, 12, 1, 13, 0] rfl ?_
                exact ih_150 (t + 1) (b10 + ((M 107 t) * by13)) (b12 + 1) (by omega) (by omega) (by
                  rw [n10]
                  show _ = sm (woT M r) t + M 107 t * (if (M 108 t * M 106 (4 * r + 1) - (100 - M 108 t) * M 106 (4 * r)) < 0 then 0 else (M 108 t * M 106 (4 * r + 1) - (100 - M 108 t) * M 106 (4 * r)))
                  rw [eby13]
                  rw [if_neg (by omega)]) (by omega)
        refine vv_sub (lv' := [(0, .ref (ad 90)), (1, .int (zI x)), (2, .ref (ad 105)), (3, .ref (ad 106)), (4, .ref (ad 107)), (5, .ref (ad 108)), (6, .ref (ad 109)), (7, .int (zI a7)), (8, .int (zI a8)), (9, .int (zI r9)), (10, .int (zI 0)), (11, .int (zI 0)), (12, .int (zI 0))]) [3, 4, 5, 6, 7, 8, 9, 10, 11, 12, 2, 1, 0] rfl ?_
        exact loop_150 _ 0 0 0 rfl (by omega) rfl (Nat.lt_succ_self _)
  refine vv_sub (lv' := [(0, .ref (ad 90)), (1, .int (zI x)), (2, .ref (ad 105)), (3, .ref (ad 106)), (4, .ref (ad 107)), (5, .ref (ad 108)), (6, .ref (ad 109)), (7, .int (zI a7)), (8, .int (zI a8)), (9, .int (zI 0))]) [1, 2, 3, 4, 5, 6, 7, 8, 9, 0] rfl ?_
  exact loop_133 _ Ms 0 0 rfl (by omega) hs (Nat.lt_succ_self _)
