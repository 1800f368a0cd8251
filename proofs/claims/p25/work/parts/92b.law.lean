set_option maxRecDepth 100000 in
set_option maxHeartbeats 4000000 in
theorem law_hire {p : Program} {l : Launch} {e : Env} {s : State} {m : MethodId} {below : List Frame} {meth : Method} {c : Code} {D : va_G} {ad : Nat → Nat} {cA : Nat → ClassId} {b : Nat} (X : Cx p s m #[Value.ref b] c cL_law RL 19 wsL_law D ad cA (AL s)) {i x : Int} (M : Mem) (hR : RLL M) (nx : ∀ M2 : Mem, RLL M2 → VV p l e room_1 s m #[Value.ref b] below meth c 19 D ad cA (AL s) 113 940 (lw_Z below #[Value.ref b] s) M2 1029 [(0, .ref b), (1, .ref (ad 90)), (2, .ref (ad 105)), (3, .ref (ad 106)), (4, .ref (ad 107)), (5, .ref (ad 108)), (6, .ref (ad 109)), (7, .ref (ad 110)), (8, .ref (ad 111)), (9, .ref (ad 112)), (10, .int (zI i)), (11, .int (zI x))] []) : VV p l e room_1 s m #[Value.ref b] below meth c 19 D ad cA (AL s) 113 940 (lw_Z below #[Value.ref b] s) M 115 [(0, .ref b), (1, .ref (ad 90)), (2, .ref (ad 105)), (3, .ref (ad 106)), (4, .ref (ad 107)), (5, .ref (ad 108)), (6, .ref (ad 109)), (7, .ref (ad 110)), (8, .ref (ad 111)), (9, .ref (ad 112)), (10, .int (zI i)), (11, .int (zI x))] [] := by
  have had := X.2.2.2.1
  have hwl := RLL_wl hR
  have hW : rWR M := hwl.2.1
  have h5 := hW.2.1
  have h50 := hW.1
  have hsm : 1 ≤ M 105 2 ∧ M 105 2 ≤ 6 := WFs_pos hwl.2.2
  have hwb : ∀ k : Nat, (k : Int) < M 105 2 → (1 ≤ M 107 k ∧ M 107 k ≤ 999) ∧ (0 ≤ M 108 k ∧ M 108 k ≤ 100) := fun k hk => WFs_b hwl.2.2 hk
  have hp9 : 1 ≤ M 105 0 ∧ M 105 0 ≤ 99 := hwl.1
  obtain ⟨nq, hnq⟩ : ∃ q : Nat, M 105 1 = (q : Int) := ⟨(M 105 1).toNat, by omega⟩
  have j0 : (4 * M 105 1).toNat = 4 * nq := by omega
  have j1 : (4 * M 105 1 + 1).toNat = 4 * nq + 1 := by omega
  have j2 : (4 * M 105 1 + 2).toNat = 4 * nq + 2 := by omega
  have j3 : (4 * M 105 1 + 3).toNat = 4 * nq + 3 := by omega
  refine vv_iconst (n := 1) X dL_law_115 ?_
  refine vv_iload X 11 rfl dL_law_116 ?_
  refine vv_iconst (n := 3) X dL_law_118 ?_
  obtain ⟨v119, hv119, ev119⟩ := any32 (zI x >>> (zI 3 &&& 31))
  refine vv_ishr (a := v119) X (ev119) dL_law_119 ?_
  refine vv_bipush (n := 99) X (by decide) dL_law_120 ?_
  refine vv_callSI (As := [.int (zI v119), .int (zI 99)]) (st := [.int (zI 1)]) X 2 (c_L_low l D cA had M v119 99 (by omega)) gL_law_L_low rfl (by decide +kernel) ⟨by decide, by decide⟩ (Nat.le_of_ble_eq_true rfl) ⟨Nat.le_of_ble_eq_true rfl, Nat.le_of_ble_eq_true rfl⟩ rfl rfl dL_law_122 (fun z122 Mc122 q_122 => ?_)
  obtain ⟨e_z122, g_z122⟩ := q_122
  have g_z122 := g_z122.symm
  subst g_z122
  refine vv_iadd X dL_law_125 ?_
  refine vv_istore (lv' := [(13, .int (zI (1 + z122))), (0, .ref b), (1, .ref (ad 90)), (2, .ref (ad 105)), (3, .ref (ad 106)), (4, .ref (ad 107)), (5, .ref (ad 108)), (6, .ref (ad 109)), (7, .ref (ad 110)), (8, .ref (ad 111)), (9, .ref (ad 112)), (10, .int (zI i)), (11, .int (zI x))]) X (by decide) rfl dL_law_126 ?_
  refine vv_iconst (n := 1) X dL_law_128 ?_
  refine vv_iload X 12 rfl dL_law_129 ?_
  refine vv_bipush (n := 6) X (by decide) dL_law_131 ?_
  obtain ⟨v133, hv133, ev133⟩ := any32 (zI x >>> (zI 6 &&& 31))
  refine vv_ishr (a := v133) X (ev133) dL_law_133 ?_
  refine vv_bipush (n := 99) X (by decide) dL_law_134 ?_
  refine vv_callSI (As := [.int (zI v133), .int (zI 99)]) (st := [.int (zI 1)]) X 2 (c_L_low l D cA had M v133 99 (by omega)) gL_law_L_low rfl (by decide +kernel) ⟨by decide, by decide⟩ (Nat.le_of_ble_eq_true rfl) ⟨Nat.le_of_ble_eq_true rfl, Nat.le_of_ble_eq_true rfl⟩ rfl rfl dL_law_136 (fun z136 Mc136 q_136 => ?_)
  obtain ⟨e_z136, g_z136⟩ := q_136
  have g_z136 := g_z136.symm
  subst g_z136
  refine vv_iadd X dL_law_139 ?_
  refine vv_istore (lv' := [(14, .int (zI (1 + z136))), (13, .int (zI (1 + z122))), (0, .ref b), (1, .ref (ad 90)), (2, .ref (ad 105)), (3, .ref (ad 106)), (4, .ref (ad 107)), (5, .ref (ad 108)), (6, .ref (ad 109)), (7, .ref (ad 110)), (8, .ref (ad 111)), (9, .ref (ad 112)), (10, .int (zI i)), (11, .int (zI x))]) X (by decide) rfl dL_law_140 ?_
  refine vv_iload X 13 rfl dL_law_142 ?_
  refine vv_bipush (n := 9) X (by decide) dL_law_144 ?_
  obtain ⟨v146, hv146, ev146⟩ := any32 (zI x >>> (zI 9 &&& 31))
  refine vv_ishr (a := v146) X (ev146) dL_law_146 ?_
  refine vv_bipush (n := 100) X (by decide) dL_law_147 ?_
  refine vv_callSI (As := [.int (zI v146), .int (zI 100)]) (st := []) X 2 (c_L_low l D cA had M v146 100 (by omega)) gL_law_L_low rfl (by decide +kernel) ⟨by decide, by decide⟩ (Nat.le_of_ble_eq_true rfl) ⟨Nat.le_of_ble_eq_true rfl, Nat.le_of_ble_eq_true rfl⟩ rfl rfl dL_law_149 (fun z149 Mc149 q_149 => ?_)
  obtain ⟨e_z149, g_z149⟩ := q_149
  have g_z149 := g_z149.symm
  subst g_z149
  refine vv_istore (lv' := [(15, .int (zI z149)), (14, .int (zI (1 + z136))), (13, .int (zI (1 + z122))), (0, .ref b), (1, .ref (ad 90)), (2, .ref (ad 105)), (3, .ref (ad 106)), (4, .ref (ad 107)), (5, .ref (ad 108)), (6, .ref (ad 109)), (7, .ref (ad 110)), (8, .ref (ad 111)), (9, .ref (ad 112)), (10, .int (zI i)), (11, .int (zI x))]) X (by decide) rfl dL_law_152 ?_
  refine vv_iload X 14 rfl dL_law_154 ?_
  refine vv_bipush (n := 11) X (by decide) dL_law_156 ?_
  obtain ⟨v158, hv158, ev158⟩ := any32 (zI x >>> (zI 11 &&& 31))
  refine vv_ishr (a := v158) X (ev158) dL_law_158 ?_
  refine vv_sipush (n := 199) X (by decide) dL_law_159 ?_
  refine vv_callSI (As := [.int (zI v158), .int (zI 199)]) (st := []) X 2 (c_L_low l D cA had M v158 199 (by omega)) gL_law_L_low rfl (by decide +kernel) ⟨by decide, by decide⟩ (Nat.le_of_ble_eq_true rfl) ⟨Nat.le_of_ble_eq_true rfl, Nat.le_of_ble_eq_true rfl⟩ rfl rfl dL_law_162 (fun z162 Mc162 q_162 => ?_)
  obtain ⟨e_z162, g_z162⟩ := q_162
  have g_z162 := g_z162.symm
  subst g_z162
  refine vv_bipush (n := 99) X (by decide) dL_law_165 ?_
  refine vv_isub X dL_law_167 ?_
  refine vv_istore (lv' := [(16, .int (zI (z162 - 99))), (15, .int (zI z149)), (14, .int (zI (1 + z136))), (13, .int (zI (1 + z122))), (0, .ref b), (1, .ref (ad 90)), (2, .ref (ad 105)), (3, .ref (ad 106)), (4, .ref (ad 107)), (5, .ref (ad 108)), (6, .ref (ad 109)), (7, .ref (ad 110)), (8, .ref (ad 111)), (9, .ref (ad 112)), (10, .int (zI i)), (11, .int (zI x))]) X (by decide) rfl dL_law_168 ?_
  refine vv_aload_n X 5 rfl rfl dL_law_170 ?_
  refine vv_iload X 3 rfl dL_law_171 ?_
  refine vv_iload X 2 rfl dL_law_173 ?_
  refine vv_iload X 1 rfl dL_law_175 ?_
  refine vv_iload X 0 rfl dL_law_177 ?_
  refine vv_callVI (As := [.int (zI (1 + z122)), .int (zI (1 + z136)), .int (zI z149), .int (zI (z162 - 99))]) (st := []) (Nf := 9) X 4 (c_X8_hire l D cA had M (1 + z122) (1 + z136) z149 (z162 - 99) (by omega) (by omega) (by omega) (by omega) (HI_c hR.2.2 (fun _ _ => rfl)) (WF_c hR.2.1 (fun _ _ => rfl))) gL_law_X8_hire rfl (by decide +kernel) ⟨by decide, by decide⟩ (Nat.le_of_ble_eq_true rfl) ⟨Nat.le_of_ble_eq_true rfl, Nat.le_of_ble_eq_true rfl⟩ rfl (by decide) sh_90 rfl rfl dL_law_179 (fun z179 Mc179 q_179 => ?_)
  obtain ⟨⟨o179, _, _, hi179, kp179, _⟩, _⟩ := q_179
  have hADM : ADM (1 + z122) (1 + z136) z149 (z162 - 99) := ⟨by omega, by omega, by omega, by omega⟩
  refine vv_aload_n X 6 rfl rfl dL_law_182 ?_
  refine vv_iconst (n := 1) X dL_law_183 ?_
  refine vv_iald (z := (M 105 1)) X (by decide) sh_105 (by decide) (by omega) (show Mc179 105 1 = M 105 1 from by rw [(kp179 105 (by omega))]) dL_law_184 ?_
  refine vv_iconst (n := 5) X dL_law_185 ?_
  refine vv_icmp_ne (tgt := 194) X (by omega) (by omega) dL_law_186 (by decide) (fun c_186 => ?_) (fun c_186 => ?_)
  · skip
    obtain ⟨ez, eA, eW⟩ := det_R hR.1 hR.2.1 o179 (law_R (c := vL M) hADM (show M 105 1 < 5 by omega))
    have ez : z179 = M 105 1 := ez
    refine vv_aload_n X 6 rfl rfl dL_law_194 ?_
    refine vv_iconst (n := 1) X dL_law_195 ?_
    refine vv_iald (z := (M 105 1)) X (by decide) sh_105 (by decide) (by omega) (show Mc179 105 1 = M 105 1 from by rw [(kp179 105 (by omega))]) dL_law_196 ?_
    refine vv_icmp_eq (tgt := 202) X (by omega) (by omega) dL_law_197 (by decide) (fun c_197 => ?_) (fun c_197 => ?_)
    · skip
      refine vv_aload_n X 6 rfl rfl dL_law_202 ?_
      refine vv_iconst (n := 1) X dL_law_203 ?_
      refine vv_iald (z := (M 105 1)) X (by decide) sh_105 (by decide) (by omega) (show Mc179 105 1 = M 105 1 from by rw [(kp179 105 (by omega))]) dL_law_204 ?_
      refine vv_iconst (n := 5) X dL_law_205 ?_
      refine vv_icmp_ge (tgt := 256) X (by omega) (by omega) dL_law_206 (by decide) (fun c_206 => ?_) (fun c_206 => ?_)
      · skip
        omega
      · skip
        refine vv_aload_n X 7 rfl rfl dL_law_209 ?_
        refine vv_iconst (n := 4) X dL_law_210 ?_
        refine vv_aload_n X 6 rfl rfl dL_law_211 ?_
        refine vv_iconst (n := 1) X dL_law_212 ?_
        refine vv_iald (z := (M 105 1)) X (by decide) sh_105 (by decide) (by omega) (show Mc179 105 1 = M 105 1 from by rw [(kp179 105 (by omega))]) dL_law_213 ?_
        refine vv_imul X dL_law_214 ?_
        refine vv_iload X 3 rfl dL_law_215 ?_
        refine vv_iast (ix := (4 * nq)) X (by decide) sh_106 (by decide) (by omega) (j0) dL_law_217 ?_
        refine vv_aload_n X 7 rfl rfl dL_law_218 ?_
        refine vv_iconst (n := 4) X dL_law_219 ?_
        refine vv_aload_n X 6 rfl rfl dL_law_220 ?_
        refine vv_iconst (n := 1) X dL_law_221 ?_
        refine vv_iald (z := (M 105 1)) X (by decide) sh_105 (by decide) (by omega) (show Mc179 105 1 = M 105 1 from by rw [(kp179 105 (by omega))]) dL_law_222 ?_
        refine vv_imul X dL_law_223 ?_
        refine vv_iconst (n := 1) X dL_law_224 ?_
        refine vv_iadd X dL_law_225 ?_
        refine vv_iload X 2 rfl dL_law_226 ?_
        refine vv_iast (ix := (4 * nq + 1)) X (by decide) sh_106 (by decide) (by omega) (j1) dL_law_228 ?_
        refine vv_aload_n X 7 rfl rfl dL_law_229 ?_
        refine vv_iconst (n := 4) X dL_law_230 ?_
        refine vv_aload_n X 6 rfl rfl dL_law_231 ?_
        refine vv_iconst (n := 1) X dL_law_232 ?_
        refine vv_iald (z := (M 105 1)) X (by decide) sh_105 (by decide) (by omega) (show Mc179 105 1 = M 105 1 from by rw [(kp179 105 (by omega))]) dL_law_233 ?_
        refine vv_imul X dL_law_234 ?_
        refine vv_iconst (n := 2) X dL_law_235 ?_
        refine vv_iadd X dL_law_236 ?_
        refine vv_iload X 1 rfl dL_law_237 ?_
        refine vv_iast (ix := (4 * nq + 2)) X (by decide) sh_106 (by decide) (by omega) (j2) dL_law_239 ?_
        refine vv_aload_n X 7 rfl rfl dL_law_240 ?_
        refine vv_iconst (n := 4) X dL_law_241 ?_
        refine vv_aload_n X 6 rfl rfl dL_law_242 ?_
        refine vv_iconst (n := 1) X dL_law_243 ?_
        refine vv_dup2 X rfl rfl dL_law_244 ?_
        refine vv_iald (z := (M 105 1)) X (by decide) sh_105 (by decide) (by omega) (show Mc179 105 1 = M 105 1 from by rw [(kp179 105 (by omega))]) dL_law_245 ?_
        refine vv_dup_x2 X rfl rfl rfl dL_law_246 ?_
        refine vv_iconst (n := 1) X dL_law_247 ?_
        refine vv_iadd X dL_law_248 ?_
        refine vv_iast (ix := 1) X (by decide) sh_105 (by decide) (by omega) (rfl) dL_law_249 ?_
        refine vv_imul X dL_law_250 ?_
        refine vv_iconst (n := 3) X dL_law_251 ?_
        refine vv_iadd X dL_law_252 ?_
        refine vv_iload X 0 rfl dL_law_253 ?_
        refine vv_iast (ix := (4 * nq + 3)) X (by decide) sh_106 (by decide) (by omega) (j3) dL_law_255 ?_
        refine vv_goto (tgt := 1029) X (by decide) dL_law_256 ?_
        refine vv_sub (lv' := [(0, .ref b), (1, .ref (ad 90)), (2, .ref (ad 105)), (3, .ref (ad 106)), (4, .ref (ad 107)), (5, .ref (ad 108)), (6, .ref (ad 109)), (7, .ref (ad 110)), (8, .ref (ad 111)), (9, .ref (ad 112)), (10, .int (zI i)), (11, .int (zI x))]) [4, 5, 6, 7, 8, 9, 10, 11, 12, 13, 14, 15] rfl ?_
        exact nx _ (RLL_of hi179 eW eA (fun a ha => by rw [up2_n _ _ _ (by omega), up2_n _ _ _ (by omega), up2_n _ _ _ (by omega), up2_n _ _ _ (by omega), up2_n _ _ _ (by omega)]) (adm_L hnq (show uz (Mc179 105) 1 (M 105 1 + 1) = _ by rw [(kp179 105 (by omega))]) (show uz (uz (uz (uz (Mc179 106) (4 * nq) _) (4 * nq + 1) _) (4 * nq + 2) _) (4 * nq + 3) _ = _ by rw [(kp179 106 (by omega))]) (kp179 107 (by omega)) (kp179 108 (by omega))))
    · skip
      omega
  · skip
    obtain ⟨ez, eA, eW⟩ := det_R hR.1 hR.2.1 o179 (law_R5 (c := vL M) hADM (show M 105 1 = 5 by omega))
    refine vv_bipush (n := (-4)) X (by decide) dL_law_189 ?_
    refine vv_goto (tgt := 197) X (by decide) dL_law_191 ?_
    refine vv_icmp_eq (tgt := 202) X (by omega) (by omega) dL_law_197 (by decide) (fun c_197 => ?_) (fun c_197 => ?_)
    · skip
      refine vv_aload_n X 6 rfl rfl dL_law_202 ?_
      refine vv_iconst (n := 1) X dL_law_203 ?_
      refine vv_iald (z := (M 105 1)) X (by decide) sh_105 (by decide) (by omega) (show Mc179 105 1 = M 105 1 from by rw [(kp179 105 (by omega))]) dL_law_204 ?_
      refine vv_iconst (n := 5) X dL_law_205 ?_
      refine vv_icmp_ge (tgt := 256) X (by omega) (by omega) dL_law_206 (by decide) (fun c_206 => ?_) (fun c_206 => ?_)
      · skip
        refine vv_goto (tgt := 1029) X (by decide) dL_law_256 ?_
        refine vv_sub (lv' := [(0, .ref b), (1, .ref (ad 90)), (2, .ref (ad 105)), (3, .ref (ad 106)), (4, .ref (ad 107)), (5, .ref (ad 108)), (6, .ref (ad 109)), (7, .ref (ad 110)), (8, .ref (ad 111)), (9, .ref (ad 112)), (10, .int (zI i)), (11, .int (zI x))]) [4, 5, 6, 7, 8, 9, 10, 11, 12, 13, 14, 15] rfl ?_
        exact nx _ (RLL_of hi179 eW eA (fun _ _ => rfl) (vL_k (kp179 105 (by omega)) (kp179 106 (by omega)) (kp179 107 (by omega)) (kp179 108 (by omega))))
      · skip
        omega
    · skip
      omega
