/-! ===== the law ===== -/
section LW
variable {p : Program} {l : Launch} {e : Env} {R : Room} {s : State} {m : MethodId} {args : Array Value} {below : List Frame} {meth : Method} {c : Code} {Q : State → Prop} {cells slots : Nat}
variable {cc : ByteArray} {own : String} {nL : Nat} {Ts : List Cond} {D : va_G} {ad : Nat → Nat} {cA : Nat → ClassId} {M : Mem} {pc : Nat} {lv lv' : List (Nat × Value)} {st : List Value} {b L : Nat} {xs : Nat → Int32}
abbrev AL (s : State) : Nat → Prop := fun q => s.heap.size ≤ q
theorem ofNat_zI (n : Nat) : Int32.ofNat n = zI (n : Int) := rfl
theorem vv_slen (X : Cx p s m args c cc own nL Ts D ad cA (AL s)) (hX : va_X b L xs s s.heap) (hbl : b < s.heap.size) (hdg : decode cc pc = .ok (.arraylength, 1)) (k : VV p l e R s m args below meth c nL D ad cA (AL s) cells slots Q M (pc + 1) lv (.int (zI (L : Int)) :: st)) : VV p l e R s m args below meth c nL D ad cA (AL s) cells slots Q M pc lv (.ref b :: st) := fun H locs ls hP hS hl =>
  va_slen X.1.1 X.1.2.1 hX hbl (Nat.not_le.mpr hbl) hS hdg (by rw [ofNat_zI]; exact k H locs ls hP hS hl)
theorem vv_sld (X : Cx p s m args c cc own nL Ts D ad cA (AL s)) (hX : va_X b L xs s s.heap) (hbl : b < s.heap.size) {a z : Int} (ha : 0 ≤ a ∧ a < (L : Int)) (hL : L < 2147483648) (hz : xs a.toNat = zI z) (hdg : decode cc pc = .ok (.iaload, 1)) (k : VV p l e R s m args below meth c nL D ad cA (AL s) cells slots Q M (pc + 1) lv (.int (zI z) :: st)) : VV p l e R s m args below meth c nL D ad cA (AL s) cells slots Q M pc lv (.int (zI a) :: .ref b :: st) := fun H locs ls hP hS hl =>
  va_sld X.1.1 X.1.2.1 hX hbl (Nat.not_le.mpr hbl) hS (zI_in ha hL) hdg (by rw [zI_cl (by omega), hz]; exact k H locs ls hP hS hl)
theorem vv_same (X : Cx p s m args c cc own nL Ts D ad cA (AL s)) {a b : Int} {off : Int} {tgt : Nat} (e9 : a = b) (hdg : decode cc pc = .ok (.if_icmp .eq off, 3)) (ht : (pc : Int) + off = (tgt : Int)) (k : VV p l e R s m args below meth c nL D ad cA (AL s) cells slots Q M tgt lv st) : VV p l e R s m args below meth c nL D ad cA (AL s) cells slots Q M pc lv (.int (zI b) :: .int (zI a) :: st) := fun H locs ls hP hS hl =>
  lv_icmp_eq X.1.1 X.1.2.1 hdg ht (fun _ => k H locs ls hP hS hl) (fun q => absurd (congrArg zI e9) q)
theorem vv_nm {v : Int64} (k : ∀ u : Nat, u < 18446744073709551616 → v = uL u → VV p l e R s m args below meth c nL D ad cA (AL s) cells slots Q M pc lv (.long (uL u) :: st)) : VV p l e R s m args below meth c nL D ad cA (AL s) cells slots Q M pc lv (.long v :: st) := by
  have h := k v.toUInt64.toNat (UInt64.toNat_lt _) (uL_of v)
  rw [← uL_of v] at h
  exact h
theorem uL_inj {u v : Nat} (hu : u < 18446744073709551616) (hv : v < 18446744073709551616) (e9 : uL u = uL v) : u = v := by
  have h := congrArg (fun z : Int64 => z.toUInt64.toNat) e9
  rw [uL_n hu, uL_n hv] at h
  exact h
theorem vv_lawret (hx : p.tables.exec = Jvm.exec) (hb : c.code = code) (hr : meth.sig.returnType = ret) (hlocks : meth.locks = false) (hcs : cells ≤ 600000 ∧ slots ≤ 7302250) (hdg : decode code pc = .ok (.ireturn, 1)) : VV p l e room_1 s m #[Value.ref b] below meth c nL D ad cA (AL s) cells slots (lw_Z below #[Value.ref b] s) M pc lv [.int (zI 1)] := fun H locs ls hP hS hl =>
  va_forget (fun q hq => hS.2.2 q hq) (W.widen (k := 600000) (n := 7302250) hcs.1 hcs.2 (lw_ret hx hb hr hlocks hdg))
theorem sc (xs : Nat → Int32) (k : Nat) : ∃ a : Int, (-2147483648 ≤ a ∧ a ≤ 2147483647) ∧ xs k = zI a := ⟨(xs k).toInt, zI_inT _, (zI_of _).symm⟩
end LW
theorem undo_RW {M M1 : Mem} {z : Int} (h : REL M) (h1 : (M 91 2 = 0 → z = -5 ∧ M1 = M) ∧ (0 < M 91 2 → z = M1 91 2 ∧ POP (M 91 2) (hvC M) (vC M1 0) (M1 91 2) (hvC M1) ∧ HI M1 ∧ KP (M 95 2) M M1)) : RW M1 := by
  have hb := h.1.2.2.1.2
  rcases (show M 91 2 = 0 ∨ 0 < M 91 2 by omega) with q | q
  · rw [(h1.1 q).2]
    exact STH_RW h.1
  · exact RW_of h (fun a ha => (h1.2 q).2.2.2.1 a (by omega))
set_option maxRecDepth 100000 in
set_option maxHeartbeats 4000000 in
theorem law_prior {p : Program} {l : Launch} {e : Env} {s : State} {m : MethodId} {below : List Frame} {meth : Method} {c : Code} {D : va_G} {ad : Nat → Nat} {cA : Nat → ClassId} {b L : Nat} {xs : Nat → Int32} (X : Cx p s m #[Value.ref b] c cL_law RL 4 wsL_law D ad cA (AL s)) (hX : va_X b L xs s s.heap) (hbl : b < s.heap.size) (hL : L < 2147483648) {i : Int} {M : Mem} (hi : 0 ≤ i ∧ i + 5 ≤ (L : Int)) (hR : REL M) (nx : ∀ M2 : Mem, REL M2 → VV p l e room_1 s m #[Value.ref b] below meth c 4 D ad cA (AL s) 113 1299 (lw_Z below #[Value.ref b] s) M2 722 [(0, .ref b), (1, .ref (ad 90)), (2, .ref (ad 105)), (3, .int (zI i))] []) : VV p l e room_1 s m #[Value.ref b] below meth c 4 D ad cA (AL s) 113 1299 (lw_Z below #[Value.ref b] s) M 136 [(0, .ref b), (1, .ref (ad 90)), (2, .ref (ad 105)), (3, .int (zI i))] [] := by
  have had := X.2.2.2.1
  obtain ⟨a1, h1, e1⟩ := sc xs (i + 1).toNat
  refine vv_aload_n X 1 rfl rfl dL_law_136 ?_
  refine vv_aload_n X 0 rfl rfl dL_law_137 ?_
  refine vv_iload_n X 3 rfl rfl dL_law_138 ?_
  refine vv_iconst (n := 1) X dL_law_139 ?_
  refine vv_iadd X dL_law_140 ?_
  refine vv_sld (z := a1) X hX hbl (by omega) hL e1 dL_law_141 ?_
  refine vv_callVI (As := [.int (zI a1)]) (st := []) (Nf := 9) X 1 (c_X8_prior l D cA had M a1 h1 hR.1.2.2.1 hR.1.2.1) gL_law_X8_prior rfl (by decide +kernel) ⟨by decide, by decide⟩ (Nat.le_of_ble_eq_true rfl) ⟨Nat.le_of_ble_eq_true rfl, Nat.le_of_ble_eq_true rfl⟩ rfl (by decide) sh_90 rfl rfl dL_law_142 (fun z1 M1 q1 => ?_)
  refine vv_aload_n X 2 rfl rfl dL_law_145 ?_
  refine vv_aload_n X 0 rfl rfl dL_law_146 ?_
  refine vv_iload_n X 3 rfl rfl dL_law_147 ?_
  refine vv_iconst (n := 1) X dL_law_148 ?_
  refine vv_iadd X dL_law_149 ?_
  refine vv_sld (z := a1) X hX hbl (by omega) hL e1 dL_law_150 ?_
  refine vv_callVI (As := [.int (zI a1)]) (st := [.int (zI z1)]) (Nf := 20) X 1 (c_X9_prior l D cA had M1 a1 h1 (c_RW hR q1.1)) gL_law_X9_prior rfl (by decide +kernel) ⟨by decide, by decide⟩ (Nat.le_of_ble_eq_true rfl) ⟨Nat.le_of_ble_eq_true rfl, Nat.le_of_ble_eq_true rfl⟩ rfl (by decide) sh_105 rfl rfl dL_law_151 (fun z2 M2 q2 => ?_)
  obtain ⟨ez, hR2⟩ := R_chg hR (fun a9 b9 r9 s9 g1 g2 => det_P hR.1.1 hR.1.2.1 g1 g2) q1 q2
  refine vv_same (tgt := 722) X ez dL_law_154 (by decide) ?_
  exact nx M2 hR2
set_option maxRecDepth 100000 in
set_option maxHeartbeats 4000000 in
theorem law_hire {p : Program} {l : Launch} {e : Env} {s : State} {m : MethodId} {below : List Frame} {meth : Method} {c : Code} {D : va_G} {ad : Nat → Nat} {cA : Nat → ClassId} {b L : Nat} {xs : Nat → Int32} (X : Cx p s m #[Value.ref b] c cL_law RL 4 wsL_law D ad cA (AL s)) (hX : va_X b L xs s s.heap) (hbl : b < s.heap.size) (hL : L < 2147483648) {i : Int} {M : Mem} (hi : 0 ≤ i ∧ i + 5 ≤ (L : Int)) (hR : REL M) (nx : ∀ M2 : Mem, REL M2 → VV p l e room_1 s m #[Value.ref b] below meth c 4 D ad cA (AL s) 113 1299 (lw_Z below #[Value.ref b] s) M2 722 [(0, .ref b), (1, .ref (ad 90)), (2, .ref (ad 105)), (3, .int (zI i))] []) : VV p l e room_1 s m #[Value.ref b] below meth c 4 D ad cA (AL s) 113 1299 (lw_Z below #[Value.ref b] s) M 159 [(0, .ref b), (1, .ref (ad 90)), (2, .ref (ad 105)), (3, .int (zI i))] [] := by
  have had := X.2.2.2.1
  obtain ⟨a1, h1, e1⟩ := sc xs (i + 1).toNat
  obtain ⟨a2, h2, e2⟩ := sc xs (i + 2).toNat
  obtain ⟨a3, h3, e3⟩ := sc xs (i + 3).toNat
  obtain ⟨a4, h4, e4⟩ := sc xs (i + 4).toNat
  refine vv_aload_n X 1 rfl rfl dL_law_159 ?_
  refine vv_aload_n X 0 rfl rfl dL_law_160 ?_
  refine vv_iload_n X 3 rfl rfl dL_law_161 ?_
  refine vv_iconst (n := 1) X dL_law_162 ?_
  refine vv_iadd X dL_law_163 ?_
  refine vv_sld (z := a1) X hX hbl (by omega) hL e1 dL_law_164 ?_
  refine vv_aload_n X 0 rfl rfl dL_law_165 ?_
  refine vv_iload_n X 3 rfl rfl dL_law_166 ?_
  refine vv_iconst (n := 2) X dL_law_167 ?_
  refine vv_iadd X dL_law_168 ?_
  refine vv_sld (z := a2) X hX hbl (by omega) hL e2 dL_law_169 ?_
  refine vv_aload_n X 0 rfl rfl dL_law_170 ?_
  refine vv_iload_n X 3 rfl rfl dL_law_171 ?_
  refine vv_iconst (n := 3) X dL_law_172 ?_
  refine vv_iadd X dL_law_173 ?_
  refine vv_sld (z := a3) X hX hbl (by omega) hL e3 dL_law_174 ?_
  refine vv_aload_n X 0 rfl rfl dL_law_175 ?_
  refine vv_iload_n X 3 rfl rfl dL_law_176 ?_
  refine vv_iconst (n := 4) X dL_law_177 ?_
  refine vv_iadd X dL_law_178 ?_
  refine vv_sld (z := a4) X hX hbl (by omega) hL e4 dL_law_179 ?_
  refine vv_callVI (As := [.int (zI a1), .int (zI a2), .int (zI a3), .int (zI a4)]) (st := []) (Nf := 9) X 4 (c_X8_hire l D cA had M a1 a2 a3 a4 h1 h2 h3 h4 hR.1.2.2.1 hR.1.2.1) gL_law_X8_hire rfl (by decide +kernel) ⟨by decide, by decide⟩ (Nat.le_of_ble_eq_true rfl) ⟨Nat.le_of_ble_eq_true rfl, Nat.le_of_ble_eq_true rfl⟩ rfl (by decide) sh_90 rfl rfl dL_law_180 (fun z1 M1 q1 => ?_)
  refine vv_aload_n X 2 rfl rfl dL_law_183 ?_
  refine vv_aload_n X 0 rfl rfl dL_law_184 ?_
  refine vv_iload_n X 3 rfl rfl dL_law_185 ?_
  refine vv_iconst (n := 1) X dL_law_186 ?_
  refine vv_iadd X dL_law_187 ?_
  refine vv_sld (z := a1) X hX hbl (by omega) hL e1 dL_law_188 ?_
  refine vv_aload_n X 0 rfl rfl dL_law_189 ?_
  refine vv_iload_n X 3 rfl rfl dL_law_190 ?_
  refine vv_iconst (n := 2) X dL_law_191 ?_
  refine vv_iadd X dL_law_192 ?_
  refine vv_sld (z := a2) X hX hbl (by omega) hL e2 dL_law_193 ?_
  refine vv_aload_n X 0 rfl rfl dL_law_194 ?_
  refine vv_iload_n X 3 rfl rfl dL_law_195 ?_
  refine vv_iconst (n := 3) X dL_law_196 ?_
  refine vv_iadd X dL_law_197 ?_
  refine vv_sld (z := a3) X hX hbl (by omega) hL e3 dL_law_198 ?_
  refine vv_aload_n X 0 rfl rfl dL_law_199 ?_
  refine vv_iload_n X 3 rfl rfl dL_law_200 ?_
  refine vv_iconst (n := 4) X dL_law_201 ?_
  refine vv_iadd X dL_law_202 ?_
  refine vv_sld (z := a4) X hX hbl (by omega) hL e4 dL_law_203 ?_
  refine vv_callVI (As := [.int (zI a1), .int (zI a2), .int (zI a3), .int (zI a4)]) (st := [.int (zI z1)]) (Nf := 20) X 4 (c_X9_hire l D cA had M1 a1 a2 a3 a4 h1 h2 h3 h4 (c_RW hR q1.1)) gL_law_X9_hire rfl (by decide +kernel) ⟨by decide, by decide⟩ (Nat.le_of_ble_eq_true rfl) ⟨Nat.le_of_ble_eq_true rfl, Nat.le_of_ble_eq_true rfl⟩ rfl (by decide) sh_105 rfl rfl dL_law_204 (fun z2 M2 q2 => ?_)
  obtain ⟨ez, hR2⟩ := R_chg hR (fun a9 b9 r9 s9 g1 g2 => det_R hR.1.1 hR.1.2.1 g1 g2) q1 q2
  refine vv_same (tgt := 722) X ez dL_law_207 (by decide) ?_
  exact nx M2 hR2
set_option maxRecDepth 100000 in
set_option maxHeartbeats 4000000 in
theorem law_dismiss {p : Program} {l : Launch} {e : Env} {s : State} {m : MethodId} {below : List Frame} {meth : Method} {c : Code} {D : va_G} {ad : Nat → Nat} {cA : Nat → ClassId} {b L : Nat} {xs : Nat → Int32} (X : Cx p s m #[Value.ref b] c cL_law RL 4 wsL_law D ad cA (AL s)) (hX : va_X b L xs s s.heap) (hbl : b < s.heap.size) (hL : L < 2147483648) {i : Int} {M : Mem} (hi : 0 ≤ i ∧ i + 5 ≤ (L : Int)) (hR : REL M) (nx : ∀ M2 : Mem, REL M2 → VV p l e room_1 s m #[Value.ref b] below meth c 4 D ad cA (AL s) 113 1299 (lw_Z below #[Value.ref b] s) M2 722 [(0, .ref b), (1, .ref (ad 90)), (2, .ref (ad 105)), (3, .int (zI i))] []) : VV p l e room_1 s m #[Value.ref b] below meth c 4 D ad cA (AL s) 113 1299 (lw_Z below #[Value.ref b] s) M 212 [(0, .ref b), (1, .ref (ad 90)), (2, .ref (ad 105)), (3, .int (zI i))] [] := by
  have had := X.2.2.2.1
  obtain ⟨a1, h1, e1⟩ := sc xs (i + 1).toNat
  refine vv_aload_n X 1 rfl rfl dL_law_212 ?_
  refine vv_aload_n X 0 rfl rfl dL_law_213 ?_
  refine vv_iload_n X 3 rfl rfl dL_law_214 ?_
  refine vv_iconst (n := 1) X dL_law_215 ?_
  refine vv_iadd X dL_law_216 ?_
  refine vv_sld (z := a1) X hX hbl (by omega) hL e1 dL_law_217 ?_
  refine vv_callVI (As := [.int (zI a1)]) (st := []) (Nf := 9) X 1 (c_X8_dismiss l D cA had M a1 h1 hR.1.2.2.1 hR.1.2.1) gL_law_X8_dismiss rfl (by decide +kernel) ⟨by decide, by decide⟩ (Nat.le_of_ble_eq_true rfl) ⟨Nat.le_of_ble_eq_true rfl, Nat.le_of_ble_eq_true rfl⟩ rfl (by decide) sh_90 rfl rfl dL_law_218 (fun z1 M1 q1 => ?_)
  refine vv_aload_n X 2 rfl rfl dL_law_221 ?_
  refine vv_aload_n X 0 rfl rfl dL_law_222 ?_
  refine vv_iload_n X 3 rfl rfl dL_law_223 ?_
  refine vv_iconst (n := 1) X dL_law_224 ?_
  refine vv_iadd X dL_law_225 ?_
  refine vv_sld (z := a1) X hX hbl (by omega) hL e1 dL_law_226 ?_
  refine vv_callVI (As := [.int (zI a1)]) (st := [.int (zI z1)]) (Nf := 20) X 1 (c_X9_dismiss l D cA had M1 a1 h1 (c_RW hR q1.1)) gL_law_X9_dismiss rfl (by decide +kernel) ⟨by decide, by decide⟩ (Nat.le_of_ble_eq_true rfl) ⟨Nat.le_of_ble_eq_true rfl, Nat.le_of_ble_eq_true rfl⟩ rfl (by decide) sh_105 rfl rfl dL_law_227 (fun z2 M2 q2 => ?_)
  obtain ⟨ez, hR2⟩ := R_chg hR (fun a9 b9 r9 s9 g1 g2 => det_D hR.1.1 hR.1.2.1 g1 g2) q1 q2
  refine vv_same (tgt := 722) X ez dL_law_230 (by decide) ?_
  exact nx M2 hR2
set_option maxRecDepth 100000 in
set_option maxHeartbeats 4000000 in
theorem law_refine {p : Program} {l : Launch} {e : Env} {s : State} {m : MethodId} {below : List Frame} {meth : Method} {c : Code} {D : va_G} {ad : Nat → Nat} {cA : Nat → ClassId} {b L : Nat} {xs : Nat → Int32} (X : Cx p s m #[Value.ref b] c cL_law RL 4 wsL_law D ad cA (AL s)) (hX : va_X b L xs s s.heap) (hbl : b < s.heap.size) (hL : L < 2147483648) {i : Int} {M : Mem} (hi : 0 ≤ i ∧ i + 5 ≤ (L : Int)) (hR : REL M) (nx : ∀ M2 : Mem, REL M2 → VV p l e room_1 s m #[Value.ref b] below meth c 4 D ad cA (AL s) 113 1299 (lw_Z below #[Value.ref b] s) M2 722 [(0, .ref b), (1, .ref (ad 90)), (2, .ref (ad 105)), (3, .int (zI i))] []) : VV p l e room_1 s m #[Value.ref b] below meth c 4 D ad cA (AL s) 113 1299 (lw_Z below #[Value.ref b] s) M 235 [(0, .ref b), (1, .ref (ad 90)), (2, .ref (ad 105)), (3, .int (zI i))] [] := by
  have had := X.2.2.2.1
  obtain ⟨a1, h1, e1⟩ := sc xs (i + 1).toNat
  obtain ⟨a2, h2, e2⟩ := sc xs (i + 2).toNat
  obtain ⟨a3, h3, e3⟩ := sc xs (i + 3).toNat
  refine vv_aload_n X 1 rfl rfl dL_law_235 ?_
  refine vv_aload_n X 0 rfl rfl dL_law_236 ?_
  refine vv_iload_n X 3 rfl rfl dL_law_237 ?_
  refine vv_iconst (n := 1) X dL_law_238 ?_
  refine vv_iadd X dL_law_239 ?_
  refine vv_sld (z := a1) X hX hbl (by omega) hL e1 dL_law_240 ?_
  refine vv_aload_n X 0 rfl rfl dL_law_241 ?_
  refine vv_iload_n X 3 rfl rfl dL_law_242 ?_
  refine vv_iconst (n := 2) X dL_law_243 ?_
  refine vv_iadd X dL_law_244 ?_
  refine vv_sld (z := a2) X hX hbl (by omega) hL e2 dL_law_245 ?_
  refine vv_aload_n X 0 rfl rfl dL_law_246 ?_
  refine vv_iload_n X 3 rfl rfl dL_law_247 ?_
  refine vv_iconst (n := 3) X dL_law_248 ?_
  refine vv_iadd X dL_law_249 ?_
  refine vv_sld (z := a3) X hX hbl (by omega) hL e3 dL_law_250 ?_
  refine vv_callVI (As := [.int (zI a1), .int (zI a2), .int (zI a3)]) (st := []) (Nf := 9) X 3 (c_X8_refine l D cA had M a1 a2 a3 h1 h2 h3 hR.1.2.2.1 hR.1.2.1) gL_law_X8_refine rfl (by decide +kernel) ⟨by decide, by decide⟩ (Nat.le_of_ble_eq_true rfl) ⟨Nat.le_of_ble_eq_true rfl, Nat.le_of_ble_eq_true rfl⟩ rfl (by decide) sh_90 rfl rfl dL_law_251 (fun z1 M1 q1 => ?_)
  refine vv_aload_n X 2 rfl rfl dL_law_254 ?_
  refine vv_aload_n X 0 rfl rfl dL_law_255 ?_
  refine vv_iload_n X 3 rfl rfl dL_law_256 ?_
  refine vv_iconst (n := 1) X dL_law_257 ?_
  refine vv_iadd X dL_law_258 ?_
  refine vv_sld (z := a1) X hX hbl (by omega) hL e1 dL_law_259 ?_
  refine vv_aload_n X 0 rfl rfl dL_law_260 ?_
  refine vv_iload_n X 3 rfl rfl dL_law_261 ?_
  refine vv_iconst (n := 2) X dL_law_262 ?_
  refine vv_iadd X dL_law_263 ?_
  refine vv_sld (z := a2) X hX hbl (by omega) hL e2 dL_law_264 ?_
  refine vv_aload_n X 0 rfl rfl dL_law_265 ?_
  refine vv_iload_n X 3 rfl rfl dL_law_266 ?_
  refine vv_iconst (n := 3) X dL_law_267 ?_
  refine vv_iadd X dL_law_268 ?_
  refine vv_sld (z := a3) X hX hbl (by omega) hL e3 dL_law_269 ?_
  refine vv_callVI (As := [.int (zI a1), .int (zI a2), .int (zI a3)]) (st := [.int (zI z1)]) (Nf := 20) X 3 (c_X9_refine l D cA had M1 a1 a2 a3 h1 h2 h3 (c_RW hR q1.1)) gL_law_X9_refine rfl (by decide +kernel) ⟨by decide, by decide⟩ (Nat.le_of_ble_eq_true rfl) ⟨Nat.le_of_ble_eq_true rfl, Nat.le_of_ble_eq_true rfl⟩ rfl (by decide) sh_105 rfl rfl dL_law_270 (fun z2 M2 q2 => ?_)
  obtain ⟨ez, hR2⟩ := R_chg hR (fun a9 b9 r9 s9 g1 g2 => det_Sp hR.1.1 hR.1.2.1 g1 g2) q1 q2
  refine vv_same (tgt := 722) X ez dL_law_273 (by decide) ?_
  exact nx M2 hR2
set_option maxRecDepth 100000 in
set_option maxHeartbeats 4000000 in
theorem law_join {p : Program} {l : Launch} {e : Env} {s : State} {m : MethodId} {below : List Frame} {meth : Method} {c : Code} {D : va_G} {ad : Nat → Nat} {cA : Nat → ClassId} {b L : Nat} {xs : Nat → Int32} (X : Cx p s m #[Value.ref b] c cL_law RL 4 wsL_law D ad cA (AL s)) (hX : va_X b L xs s s.heap) (hbl : b < s.heap.size) (hL : L < 2147483648) {i : Int} {M : Mem} (hi : 0 ≤ i ∧ i + 5 ≤ (L : Int)) (hR : REL M) (nx : ∀ M2 : Mem, REL M2 → VV p l e room_1 s m #[Value.ref b] below meth c 4 D ad cA (AL s) 113 1299 (lw_Z below #[Value.ref b] s) M2 722 [(0, .ref b), (1, .ref (ad 90)), (2, .ref (ad 105)), (3, .int (zI i))] []) : VV p l e room_1 s m #[Value.ref b] below meth c 4 D ad cA (AL s) 113 1299 (lw_Z below #[Value.ref b] s) M 278 [(0, .ref b), (1, .ref (ad 90)), (2, .ref (ad 105)), (3, .int (zI i))] [] := by
  have had := X.2.2.2.1
  obtain ⟨a1, h1, e1⟩ := sc xs (i + 1).toNat
  refine vv_aload_n X 1 rfl rfl dL_law_278 ?_
  refine vv_aload_n X 0 rfl rfl dL_law_279 ?_
  refine vv_iload_n X 3 rfl rfl dL_law_280 ?_
  refine vv_iconst (n := 1) X dL_law_281 ?_
  refine vv_iadd X dL_law_282 ?_
  refine vv_sld (z := a1) X hX hbl (by omega) hL e1 dL_law_283 ?_
  refine vv_callVI (As := [.int (zI a1)]) (st := []) (Nf := 9) X 1 (c_X8_join l D cA had M a1 h1 hR.1.2.2.1 hR.1.2.1) gL_law_X8_join rfl (by decide +kernel) ⟨by decide, by decide⟩ (Nat.le_of_ble_eq_true rfl) ⟨Nat.le_of_ble_eq_true rfl, Nat.le_of_ble_eq_true rfl⟩ rfl (by decide) sh_90 rfl rfl dL_law_284 (fun z1 M1 q1 => ?_)
  refine vv_aload_n X 2 rfl rfl dL_law_287 ?_
  refine vv_aload_n X 0 rfl rfl dL_law_288 ?_
  refine vv_iload_n X 3 rfl rfl dL_law_289 ?_
  refine vv_iconst (n := 1) X dL_law_290 ?_
  refine vv_iadd X dL_law_291 ?_
  refine vv_sld (z := a1) X hX hbl (by omega) hL e1 dL_law_292 ?_
  refine vv_callVI (As := [.int (zI a1)]) (st := [.int (zI z1)]) (Nf := 20) X 1 (c_X9_join l D cA had M1 a1 h1 (c_RW hR q1.1)) gL_law_X9_join rfl (by decide +kernel) ⟨by decide, by decide⟩ (Nat.le_of_ble_eq_true rfl) ⟨Nat.le_of_ble_eq_true rfl, Nat.le_of_ble_eq_true rfl⟩ rfl (by decide) sh_105 rfl rfl dL_law_293 (fun z2 M2 q2 => ?_)
  obtain ⟨ez, hR2⟩ := R_chg hR (fun a9 b9 r9 s9 g1 g2 => det_Jn hR.1.1 hR.1.2.1 g1 g2) q1 q2
  refine vv_same (tgt := 722) X ez dL_law_296 (by decide) ?_
  exact nx M2 hR2
set_option maxRecDepth 100000 in
set_option maxHeartbeats 4000000 in
theorem law_adopt {p : Program} {l : Launch} {e : Env} {s : State} {m : MethodId} {below : List Frame} {meth : Method} {c : Code} {D : va_G} {ad : Nat → Nat} {cA : Nat → ClassId} {b L : Nat} {xs : Nat → Int32} (X : Cx p s m #[Value.ref b] c cL_law RL 4 wsL_law D ad cA (AL s)) (hX : va_X b L xs s s.heap) (hbl : b < s.heap.size) (hL : L < 2147483648) {i : Int} {M : Mem} (hi : 0 ≤ i ∧ i + 5 ≤ (L : Int)) (hR : REL M) (nx : ∀ M2 : Mem, REL M2 → VV p l e room_1 s m #[Value.ref b] below meth c 4 D ad cA (AL s) 113 1299 (lw_Z below #[Value.ref b] s) M2 722 [(0, .ref b), (1, .ref (ad 90)), (2, .ref (ad 105)), (3, .int (zI i))] []) : VV p l e room_1 s m #[Value.ref b] below meth c 4 D ad cA (AL s) 113 1299 (lw_Z below #[Value.ref b] s) M 301 [(0, .ref b), (1, .ref (ad 90)), (2, .ref (ad 105)), (3, .int (zI i))] [] := by
  have had := X.2.2.2.1
  refine vv_aload_n X 1 rfl rfl dL_law_301 ?_
  refine vv_callVI (As := []) (st := []) (Nf := 9) X 0 (c_X8_adopt l D cA had M   hR.1.2.2.1 hR.1.2.1) gL_law_X8_adopt rfl (by decide +kernel) ⟨by decide, by decide⟩ (Nat.le_of_ble_eq_true rfl) ⟨Nat.le_of_ble_eq_true rfl, Nat.le_of_ble_eq_true rfl⟩ rfl (by decide) sh_90 rfl rfl dL_law_302 (fun z1 M1 q1 => ?_)
  refine vv_aload_n X 2 rfl rfl dL_law_305 ?_
  refine vv_callVI (As := []) (st := [.int (zI z1)]) (Nf := 20) X 0 (c_X9_adopt l D cA had M1   (c_RW hR q1.1)) gL_law_X9_adopt rfl (by decide +kernel) ⟨by decide, by decide⟩ (Nat.le_of_ble_eq_true rfl) ⟨Nat.le_of_ble_eq_true rfl, Nat.le_of_ble_eq_true rfl⟩ rfl (by decide) sh_105 rfl rfl dL_law_306 (fun z2 M2 q2 => ?_)
  obtain ⟨ez, hR2⟩ := R_chg hR (fun a9 b9 r9 s9 g1 g2 => det_B hR.1.1 hR.1.2.1 g1 g2) q1 q2
  refine vv_same (tgt := 722) X ez dL_law_309 (by decide) ?_
  exact nx M2 hR2
set_option maxRecDepth 100000 in
set_option maxHeartbeats 4000000 in
theorem law_receiver {p : Program} {l : Launch} {e : Env} {s : State} {m : MethodId} {below : List Frame} {meth : Method} {c : Code} {D : va_G} {ad : Nat → Nat} {cA : Nat → ClassId} {b L : Nat} {xs : Nat → Int32} (X : Cx p s m #[Value.ref b] c cL_law RL 4 wsL_law D ad cA (AL s)) (hX : va_X b L xs s s.heap) (hbl : b < s.heap.size) (hL : L < 2147483648) {i : Int} {M : Mem} (hi : 0 ≤ i ∧ i + 5 ≤ (L : Int)) (hR : REL M) (nx : ∀ M2 : Mem, REL M2 → VV p l e room_1 s m #[Value.ref b] below meth c 4 D ad cA (AL s) 113 1299 (lw_Z below #[Value.ref b] s) M2 722 [(0, .ref b), (1, .ref (ad 90)), (2, .ref (ad 105)), (3, .int (zI i))] []) : VV p l e room_1 s m #[Value.ref b] below meth c 4 D ad cA (AL s) 113 1299 (lw_Z below #[Value.ref b] s) M 314 [(0, .ref b), (1, .ref (ad 90)), (2, .ref (ad 105)), (3, .int (zI i))] [] := by
  have had := X.2.2.2.1
  obtain ⟨a1, h1, e1⟩ := sc xs (i + 1).toNat
  obtain ⟨a2, h2, e2⟩ := sc xs (i + 2).toNat
  refine vv_aload_n X 1 rfl rfl dL_law_314 ?_
  refine vv_aload_n X 0 rfl rfl dL_law_315 ?_
  refine vv_iload_n X 3 rfl rfl dL_law_316 ?_
  refine vv_iconst (n := 1) X dL_law_317 ?_
  refine vv_iadd X dL_law_318 ?_
  refine vv_sld (z := a1) X hX hbl (by omega) hL e1 dL_law_319 ?_
  refine vv_aload_n X 0 rfl rfl dL_law_320 ?_
  refine vv_iload_n X 3 rfl rfl dL_law_321 ?_
  refine vv_iconst (n := 2) X dL_law_322 ?_
  refine vv_iadd X dL_law_323 ?_
  refine vv_sld (z := a2) X hX hbl (by omega) hL e2 dL_law_324 ?_
  refine vv_callVI (As := [.int (zI a1), .int (zI a2)]) (st := []) (Nf := 9) X 2 (c_X8_receiver l D cA had M a1 a2 h1 h2 hR.1.2.1) gL_law_X8_receiver rfl (by decide +kernel) ⟨by decide, by decide⟩ (Nat.le_of_ble_eq_true rfl) ⟨Nat.le_of_ble_eq_true rfl, Nat.le_of_ble_eq_true rfl⟩ rfl (by decide) sh_90 rfl rfl dL_law_325 (fun z1 M1 q1 => ?_)
  refine vv_aload_n X 2 rfl rfl dL_law_328 ?_
  refine vv_aload_n X 0 rfl rfl dL_law_329 ?_
  refine vv_iload_n X 3 rfl rfl dL_law_330 ?_
  refine vv_iconst (n := 1) X dL_law_331 ?_
  refine vv_iadd X dL_law_332 ?_
  refine vv_sld (z := a1) X hX hbl (by omega) hL e1 dL_law_333 ?_
  refine vv_aload_n X 0 rfl rfl dL_law_334 ?_
  refine vv_iload_n X 3 rfl rfl dL_law_335 ?_
  refine vv_iconst (n := 2) X dL_law_336 ?_
  refine vv_iadd X dL_law_337 ?_
  refine vv_sld (z := a2) X hX hbl (by omega) hL e2 dL_law_338 ?_
  refine vv_callVI (As := [.int (zI a1), .int (zI a2)]) (st := [.int (zI z1)]) (Nf := 20) X 2 (c_X9_receiver l D cA had M1 a1 a2 h1 h2 (q_RW hR q1.2).1) gL_law_X9_receiver rfl (by decide +kernel) ⟨by decide, by decide⟩ (Nat.le_of_ble_eq_true rfl) ⟨Nat.le_of_ble_eq_true rfl, Nat.le_of_ble_eq_true rfl⟩ rfl (by decide) sh_105 rfl rfl dL_law_339 (fun z2 M2 q2 => ?_)
  rw [(q_RW hR q1.2).2.1] at q2
  have ez := det_qRec hR.1.1 q1.1 q2.1
  have hR2 := R_q hR q1.2 q2.2
  refine vv_same (tgt := 722) X ez dL_law_342 (by decide) ?_
  exact nx M2 hR2
set_option maxRecDepth 100000 in
set_option maxHeartbeats 4000000 in
theorem law_part {p : Program} {l : Launch} {e : Env} {s : State} {m : MethodId} {below : List Frame} {meth : Method} {c : Code} {D : va_G} {ad : Nat → Nat} {cA : Nat → ClassId} {b L : Nat} {xs : Nat → Int32} (X : Cx p s m #[Value.ref b] c cL_law RL 4 wsL_law D ad cA (AL s)) (hX : va_X b L xs s s.heap) (hbl : b < s.heap.size) (hL : L < 2147483648) {i : Int} {M : Mem} (hi : 0 ≤ i ∧ i + 5 ≤ (L : Int)) (hR : REL M) (nx : ∀ M2 : Mem, REL M2 → VV p l e room_1 s m #[Value.ref b] below meth c 4 D ad cA (AL s) 113 1299 (lw_Z below #[Value.ref b] s) M2 722 [(0, .ref b), (1, .ref (ad 90)), (2, .ref (ad 105)), (3, .int (zI i))] []) : VV p l e room_1 s m #[Value.ref b] below meth c 4 D ad cA (AL s) 113 1299 (lw_Z below #[Value.ref b] s) M 347 [(0, .ref b), (1, .ref (ad 90)), (2, .ref (ad 105)), (3, .int (zI i))] [] := by
  have had := X.2.2.2.1
  obtain ⟨a1, h1, e1⟩ := sc xs (i + 1).toNat
  obtain ⟨a2, h2, e2⟩ := sc xs (i + 2).toNat
  refine vv_aload_n X 1 rfl rfl dL_law_347 ?_
  refine vv_aload_n X 0 rfl rfl dL_law_348 ?_
  refine vv_iload_n X 3 rfl rfl dL_law_349 ?_
  refine vv_iconst (n := 1) X dL_law_350 ?_
  refine vv_iadd X dL_law_351 ?_
  refine vv_sld (z := a1) X hX hbl (by omega) hL e1 dL_law_352 ?_
  refine vv_aload_n X 0 rfl rfl dL_law_353 ?_
  refine vv_iload_n X 3 rfl rfl dL_law_354 ?_
  refine vv_iconst (n := 2) X dL_law_355 ?_
  refine vv_iadd X dL_law_356 ?_
  refine vv_sld (z := a2) X hX hbl (by omega) hL e2 dL_law_357 ?_
  refine vv_callVI (As := [.int (zI a1), .int (zI a2)]) (st := []) (Nf := 9) X 2 (c_X8_part l D cA had M a1 a2 h1 h2 hR.1.2.1) gL_law_X8_part rfl (by decide +kernel) ⟨by decide, by decide⟩ (Nat.le_of_ble_eq_true rfl) ⟨Nat.le_of_ble_eq_true rfl, Nat.le_of_ble_eq_true rfl⟩ rfl (by decide) sh_90 rfl rfl dL_law_358 (fun z1 M1 q1 => ?_)
  refine vv_aload_n X 2 rfl rfl dL_law_361 ?_
  refine vv_aload_n X 0 rfl rfl dL_law_362 ?_
  refine vv_iload_n X 3 rfl rfl dL_law_363 ?_
  refine vv_iconst (n := 1) X dL_law_364 ?_
  refine vv_iadd X dL_law_365 ?_
  refine vv_sld (z := a1) X hX hbl (by omega) hL e1 dL_law_366 ?_
  refine vv_aload_n X 0 rfl rfl dL_law_367 ?_
  refine vv_iload_n X 3 rfl rfl dL_law_368 ?_
  refine vv_iconst (n := 2) X dL_law_369 ?_
  refine vv_iadd X dL_law_370 ?_
  refine vv_sld (z := a2) X hX hbl (by omega) hL e2 dL_law_371 ?_
  refine vv_callVI (As := [.int (zI a1), .int (zI a2)]) (st := [.int (zI z1)]) (Nf := 20) X 2 (c_X9_part l D cA had M1 a1 a2 h1 h2 (q_RW hR q1.2).1) gL_law_X9_part rfl (by decide +kernel) ⟨by decide, by decide⟩ (Nat.le_of_ble_eq_true rfl) ⟨Nat.le_of_ble_eq_true rfl, Nat.le_of_ble_eq_true rfl⟩ rfl (by decide) sh_105 rfl rfl dL_law_372 (fun z2 M2 q2 => ?_)
  rw [(q_RW hR q1.2).2.1] at q2
  have ez := det_qPart hR.1.1 hR.1.2.1 q1.1 q2.1
  have hR2 := R_q hR q1.2 q2.2
  refine vv_same (tgt := 722) X ez dL_law_375 (by decide) ?_
  exact nx M2 hR2
set_option maxRecDepth 100000 in
set_option maxHeartbeats 4000000 in
theorem law_value {p : Program} {l : Launch} {e : Env} {s : State} {m : MethodId} {below : List Frame} {meth : Method} {c : Code} {D : va_G} {ad : Nat → Nat} {cA : Nat → ClassId} {b L : Nat} {xs : Nat → Int32} (X : Cx p s m #[Value.ref b] c cL_law RL 4 wsL_law D ad cA (AL s)) (hX : va_X b L xs s s.heap) (hbl : b < s.heap.size) (hL : L < 2147483648) {i : Int} {M : Mem} (hi : 0 ≤ i ∧ i + 5 ≤ (L : Int)) (hR : REL M) (nx : ∀ M2 : Mem, REL M2 → VV p l e room_1 s m #[Value.ref b] below meth c 4 D ad cA (AL s) 113 1299 (lw_Z below #[Value.ref b] s) M2 722 [(0, .ref b), (1, .ref (ad 90)), (2, .ref (ad 105)), (3, .int (zI i))] []) : VV p l e room_1 s m #[Value.ref b] below meth c 4 D ad cA (AL s) 113 1299 (lw_Z below #[Value.ref b] s) M 380 [(0, .ref b), (1, .ref (ad 90)), (2, .ref (ad 105)), (3, .int (zI i))] [] := by
  have had := X.2.2.2.1
  obtain ⟨a1, h1, e1⟩ := sc xs (i + 1).toNat
  refine vv_aload_n X 1 rfl rfl dL_law_380 ?_
  refine vv_aload_n X 0 rfl rfl dL_law_381 ?_
  refine vv_iload_n X 3 rfl rfl dL_law_382 ?_
  refine vv_iconst (n := 1) X dL_law_383 ?_
  refine vv_iadd X dL_law_384 ?_
  refine vv_sld (z := a1) X hX hbl (by omega) hL e1 dL_law_385 ?_
  refine vv_callVI (As := [.int (zI a1)]) (st := []) (Nf := 9) X 1 (c_X8_value l D cA had M a1 h1 hR.1.2.1) gL_law_X8_value rfl (by decide +kernel) ⟨by decide, by decide⟩ (Nat.le_of_ble_eq_true rfl) ⟨Nat.le_of_ble_eq_true rfl, Nat.le_of_ble_eq_true rfl⟩ rfl (by decide) sh_90 rfl rfl dL_law_386 (fun z1 M1 q1 => ?_)
  refine vv_aload_n X 2 rfl rfl dL_law_389 ?_
  refine vv_aload_n X 0 rfl rfl dL_law_390 ?_
  refine vv_iload_n X 3 rfl rfl dL_law_391 ?_
  refine vv_iconst (n := 1) X dL_law_392 ?_
  refine vv_iadd X dL_law_393 ?_
  refine vv_sld (z := a1) X hX hbl (by omega) hL e1 dL_law_394 ?_
  refine vv_callVI (As := [.int (zI a1)]) (st := [.int (zI z1)]) (Nf := 20) X 1 (c_X9_value l D cA had M1 a1 h1 (q_RW hR q1.2).1) gL_law_X9_value rfl (by decide +kernel) ⟨by decide, by decide⟩ (Nat.le_of_ble_eq_true rfl) ⟨Nat.le_of_ble_eq_true rfl, Nat.le_of_ble_eq_true rfl⟩ rfl (by decide) sh_105 rfl rfl dL_law_395 (fun z2 M2 q2 => ?_)
  rw [(q_RW hR q1.2).2.1] at q2
  have ez := det_qVal hR.1.1 hR.1.2.1 q1.1 q2.1
  have hR2 := R_q hR q1.2 q2.2
  refine vv_same (tgt := 722) X ez dL_law_398 (by decide) ?_
  exact nx M2 hR2
set_option maxRecDepth 100000 in
set_option maxHeartbeats 4000000 in
theorem law_mean {p : Program} {l : Launch} {e : Env} {s : State} {m : MethodId} {below : List Frame} {meth : Method} {c : Code} {D : va_G} {ad : Nat → Nat} {cA : Nat → ClassId} {b L : Nat} {xs : Nat → Int32} (X : Cx p s m #[Value.ref b] c cL_law RL 4 wsL_law D ad cA (AL s)) (hX : va_X b L xs s s.heap) (hbl : b < s.heap.size) (hL : L < 2147483648) {i : Int} {M : Mem} (hi : 0 ≤ i ∧ i + 5 ≤ (L : Int)) (hR : REL M) (nx : ∀ M2 : Mem, REL M2 → VV p l e room_1 s m #[Value.ref b] below meth c 4 D ad cA (AL s) 113 1299 (lw_Z below #[Value.ref b] s) M2 722 [(0, .ref b), (1, .ref (ad 90)), (2, .ref (ad 105)), (3, .int (zI i))] []) : VV p l e room_1 s m #[Value.ref b] below meth c 4 D ad cA (AL s) 113 1299 (lw_Z below #[Value.ref b] s) M 403 [(0, .ref b), (1, .ref (ad 90)), (2, .ref (ad 105)), (3, .int (zI i))] [] := by
  have had := X.2.2.2.1
  obtain ⟨a1, h1, e1⟩ := sc xs (i + 1).toNat
  refine vv_aload_n X 1 rfl rfl dL_law_403 ?_
  refine vv_aload_n X 0 rfl rfl dL_law_404 ?_
  refine vv_iload_n X 3 rfl rfl dL_law_405 ?_
  refine vv_iconst (n := 1) X dL_law_406 ?_
  refine vv_iadd X dL_law_407 ?_
  refine vv_sld (z := a1) X hX hbl (by omega) hL e1 dL_law_408 ?_
  refine vv_callVI (As := [.int (zI a1)]) (st := []) (Nf := 9) X 1 (c_X8_mean l D cA had M a1 h1 hR.1.2.1) gL_law_X8_mean rfl (by decide +kernel) ⟨by decide, by decide⟩ (Nat.le_of_ble_eq_true rfl) ⟨Nat.le_of_ble_eq_true rfl, Nat.le_of_ble_eq_true rfl⟩ rfl (by decide) sh_90 rfl rfl dL_law_409 (fun z1 M1 q1 => ?_)
  refine vv_aload_n X 2 rfl rfl dL_law_412 ?_
  refine vv_aload_n X 0 rfl rfl dL_law_413 ?_
  refine vv_iload_n X 3 rfl rfl dL_law_414 ?_
  refine vv_iconst (n := 1) X dL_law_415 ?_
  refine vv_iadd X dL_law_416 ?_
  refine vv_sld (z := a1) X hX hbl (by omega) hL e1 dL_law_417 ?_
  refine vv_callVI (As := [.int (zI a1)]) (st := [.int (zI z1)]) (Nf := 20) X 1 (c_X9_mean l D cA had M1 a1 h1 (q_RW hR q1.2).1) gL_law_X9_mean rfl (by decide +kernel) ⟨by decide, by decide⟩ (Nat.le_of_ble_eq_true rfl) ⟨Nat.le_of_ble_eq_true rfl, Nat.le_of_ble_eq_true rfl⟩ rfl (by decide) sh_105 rfl rfl dL_law_418 (fun z2 M2 q2 => ?_)
  rw [(q_RW hR q1.2).2.1] at q2
  have ez := det_qMean hR.1.1 hR.1.2.1 q1.1 q2.1
  have hR2 := R_q hR q1.2 q2.2
  refine vv_same (tgt := 722) X ez dL_law_421 (by decide) ?_
  exact nx M2 hR2
set_option maxRecDepth 100000 in
set_option maxHeartbeats 4000000 in
theorem law_worth {p : Program} {l : Launch} {e : Env} {s : State} {m : MethodId} {below : List Frame} {meth : Method} {c : Code} {D : va_G} {ad : Nat → Nat} {cA : Nat → ClassId} {b L : Nat} {xs : Nat → Int32} (X : Cx p s m #[Value.ref b] c cL_law RL 4 wsL_law D ad cA (AL s)) (hX : va_X b L xs s s.heap) (hbl : b < s.heap.size) (hL : L < 2147483648) {i : Int} {M : Mem} (hi : 0 ≤ i ∧ i + 5 ≤ (L : Int)) (hR : REL M) (nx : ∀ M2 : Mem, REL M2 → VV p l e room_1 s m #[Value.ref b] below meth c 4 D ad cA (AL s) 113 1299 (lw_Z below #[Value.ref b] s) M2 722 [(0, .ref b), (1, .ref (ad 90)), (2, .ref (ad 105)), (3, .int (zI i))] []) : VV p l e room_1 s m #[Value.ref b] below meth c 4 D ad cA (AL s) 113 1299 (lw_Z below #[Value.ref b] s) M 426 [(0, .ref b), (1, .ref (ad 90)), (2, .ref (ad 105)), (3, .int (zI i))] [] := by
  have had := X.2.2.2.1
  obtain ⟨a1, h1, e1⟩ := sc xs (i + 1).toNat
  obtain ⟨a2, h2, e2⟩ := sc xs (i + 2).toNat
  refine vv_aload_n X 1 rfl rfl dL_law_426 ?_
  refine vv_aload_n X 0 rfl rfl dL_law_427 ?_
  refine vv_iload_n X 3 rfl rfl dL_law_428 ?_
  refine vv_iconst (n := 1) X dL_law_429 ?_
  refine vv_iadd X dL_law_430 ?_
  refine vv_sld (z := a1) X hX hbl (by omega) hL e1 dL_law_431 ?_
  refine vv_aload_n X 0 rfl rfl dL_law_432 ?_
  refine vv_iload_n X 3 rfl rfl dL_law_433 ?_
  refine vv_iconst (n := 2) X dL_law_434 ?_
  refine vv_iadd X dL_law_435 ?_
  refine vv_sld (z := a2) X hX hbl (by omega) hL e2 dL_law_436 ?_
  refine vv_callVI (As := [.int (zI a1), .int (zI a2)]) (st := []) (Nf := 9) X 2 (c_X8_worth l D cA had M a1 a2 h1 h2 hR.1.2.1) gL_law_X8_worth rfl (by decide +kernel) ⟨by decide, by decide⟩ (Nat.le_of_ble_eq_true rfl) ⟨Nat.le_of_ble_eq_true rfl, Nat.le_of_ble_eq_true rfl⟩ rfl (by decide) sh_90 rfl rfl dL_law_437 (fun z1 M1 q1 => ?_)
  refine vv_aload_n X 2 rfl rfl dL_law_440 ?_
  refine vv_aload_n X 0 rfl rfl dL_law_441 ?_
  refine vv_iload_n X 3 rfl rfl dL_law_442 ?_
  refine vv_iconst (n := 1) X dL_law_443 ?_
  refine vv_iadd X dL_law_444 ?_
  refine vv_sld (z := a1) X hX hbl (by omega) hL e1 dL_law_445 ?_
  refine vv_aload_n X 0 rfl rfl dL_law_446 ?_
  refine vv_iload_n X 3 rfl rfl dL_law_447 ?_
  refine vv_iconst (n := 2) X dL_law_448 ?_
  refine vv_iadd X dL_law_449 ?_
  refine vv_sld (z := a2) X hX hbl (by omega) hL e2 dL_law_450 ?_
  refine vv_callVI (As := [.int (zI a1), .int (zI a2)]) (st := [.int (zI z1)]) (Nf := 20) X 2 (c_X9_worth l D cA had M1 a1 a2 h1 h2 (q_RW hR q1.2).1) gL_law_X9_worth rfl (by decide +kernel) ⟨by decide, by decide⟩ (Nat.le_of_ble_eq_true rfl) ⟨Nat.le_of_ble_eq_true rfl, Nat.le_of_ble_eq_true rfl⟩ rfl (by decide) sh_105 rfl rfl dL_law_451 (fun z2 M2 q2 => ?_)
  rw [(q_RW hR q1.2).2.1] at q2
  have ez := det_qWor hR.1.1 hR.1.2.1 q1.1 q2.1
  have hR2 := R_q hR q1.2 q2.2
  refine vv_same (tgt := 722) X ez dL_law_454 (by decide) ?_
  exact nx M2 hR2
set_option maxRecDepth 100000 in
set_option maxHeartbeats 4000000 in
theorem law_count {p : Program} {l : Launch} {e : Env} {s : State} {m : MethodId} {below : List Frame} {meth : Method} {c : Code} {D : va_G} {ad : Nat → Nat} {cA : Nat → ClassId} {b L : Nat} {xs : Nat → Int32} (X : Cx p s m #[Value.ref b] c cL_law RL 4 wsL_law D ad cA (AL s)) (hX : va_X b L xs s s.heap) (hbl : b < s.heap.size) (hL : L < 2147483648) {i : Int} {M : Mem} (hi : 0 ≤ i ∧ i + 5 ≤ (L : Int)) (hR : REL M) (nx : ∀ M2 : Mem, REL M2 → VV p l e room_1 s m #[Value.ref b] below meth c 4 D ad cA (AL s) 113 1299 (lw_Z below #[Value.ref b] s) M2 722 [(0, .ref b), (1, .ref (ad 90)), (2, .ref (ad 105)), (3, .int (zI i))] []) : VV p l e room_1 s m #[Value.ref b] below meth c 4 D ad cA (AL s) 113 1299 (lw_Z below #[Value.ref b] s) M 459 [(0, .ref b), (1, .ref (ad 90)), (2, .ref (ad 105)), (3, .int (zI i))] [] := by
  have had := X.2.2.2.1
  obtain ⟨a1, h1, e1⟩ := sc xs (i + 1).toNat
  refine vv_aload_n X 1 rfl rfl dL_law_459 ?_
  refine vv_aload_n X 0 rfl rfl dL_law_460 ?_
  refine vv_iload_n X 3 rfl rfl dL_law_461 ?_
  refine vv_iconst (n := 1) X dL_law_462 ?_
  refine vv_iadd X dL_law_463 ?_
  refine vv_sld (z := a1) X hX hbl (by omega) hL e1 dL_law_464 ?_
  refine vv_callVI (As := [.int (zI a1)]) (st := []) (Nf := 9) X 1 (c_X8_count l D cA had M a1 h1 hR.1.2.1) gL_law_X8_count rfl (by decide +kernel) ⟨by decide, by decide⟩ (Nat.le_of_ble_eq_true rfl) ⟨Nat.le_of_ble_eq_true rfl, Nat.le_of_ble_eq_true rfl⟩ rfl (by decide) sh_90 rfl rfl dL_law_465 (fun z1 M1 q1 => ?_)
  refine vv_aload_n X 2 rfl rfl dL_law_468 ?_
  refine vv_aload_n X 0 rfl rfl dL_law_469 ?_
  refine vv_iload_n X 3 rfl rfl dL_law_470 ?_
  refine vv_iconst (n := 1) X dL_law_471 ?_
  refine vv_iadd X dL_law_472 ?_
  refine vv_sld (z := a1) X hX hbl (by omega) hL e1 dL_law_473 ?_
  refine vv_callVI (As := [.int (zI a1)]) (st := [.int (zI z1)]) (Nf := 20) X 1 (c_X9_count l D cA had M1 a1 h1 (q_RW hR q1.2.2.2).1) gL_law_X9_count rfl (by decide +kernel) ⟨by decide, by decide⟩ (Nat.le_of_ble_eq_true rfl) ⟨Nat.le_of_ble_eq_true rfl, Nat.le_of_ble_eq_true rfl⟩ rfl (by decide) sh_105 rfl rfl dL_law_474 (fun z2 M2 q2 => ?_)
  obtain ⟨qa, qb, qc⟩ := q_RW hR q1.2.2.2
  rw [qb, qc] at q2
  have ez : z1 = z2 := by
    by_cases w5 : a1 = 5
    · rw [q1.2.1 w5, q2.2.1 w5]
      exact hR.2.2.1
    · by_cases w6 : a1 = 6
      · rw [q1.2.2.1 w6, q2.2.2.1 w6]
        exact hR.1.2.2.2.2.1
      · exact det_qCnt w5 w6 hR.1.1 hR.1.2.1 q1.1 q2.1
  have hR2 := R_q hR q1.2.2.2 q2.2.2.2
  refine vv_same (tgt := 722) X ez dL_law_477 (by decide) ?_
  exact nx M2 hR2
set_option maxRecDepth 100000 in
set_option maxHeartbeats 4000000 in
theorem law_envelope {p : Program} {l : Launch} {e : Env} {s : State} {m : MethodId} {below : List Frame} {meth : Method} {c : Code} {D : va_G} {ad : Nat → Nat} {cA : Nat → ClassId} {b L : Nat} {xs : Nat → Int32} (X : Cx p s m #[Value.ref b] c cL_law RL 4 wsL_law D ad cA (AL s)) (hX : va_X b L xs s s.heap) (hbl : b < s.heap.size) (hL : L < 2147483648) {i : Int} {M : Mem} (hi : 0 ≤ i ∧ i + 5 ≤ (L : Int)) (hR : REL M) (nx : ∀ M2 : Mem, REL M2 → VV p l e room_1 s m #[Value.ref b] below meth c 4 D ad cA (AL s) 113 1299 (lw_Z below #[Value.ref b] s) M2 722 [(0, .ref b), (1, .ref (ad 90)), (2, .ref (ad 105)), (3, .int (zI i))] []) : VV p l e room_1 s m #[Value.ref b] below meth c 4 D ad cA (AL s) 113 1299 (lw_Z below #[Value.ref b] s) M 482 [(0, .ref b), (1, .ref (ad 90)), (2, .ref (ad 105)), (3, .int (zI i))] [] := by
  have had := X.2.2.2.1
  obtain ⟨a1, h1, e1⟩ := sc xs (i + 1).toNat
  obtain ⟨a2, h2, e2⟩ := sc xs (i + 2).toNat
  refine vv_aload_n X 1 rfl rfl dL_law_482 ?_
  refine vv_aload_n X 0 rfl rfl dL_law_483 ?_
  refine vv_iload_n X 3 rfl rfl dL_law_484 ?_
  refine vv_iconst (n := 1) X dL_law_485 ?_
  refine vv_iadd X dL_law_486 ?_
  refine vv_sld (z := a1) X hX hbl (by omega) hL e1 dL_law_487 ?_
  refine vv_aload_n X 0 rfl rfl dL_law_488 ?_
  refine vv_iload_n X 3 rfl rfl dL_law_489 ?_
  refine vv_iconst (n := 2) X dL_law_490 ?_
  refine vv_iadd X dL_law_491 ?_
  refine vv_sld (z := a2) X hX hbl (by omega) hL e2 dL_law_492 ?_
  refine vv_callVI (As := [.int (zI a1), .int (zI a2)]) (st := []) (Nf := 9) X 2 (c_X8_envelope l D cA had M a1 a2 h1 h2 hR.1.2.1) gL_law_X8_envelope rfl (by decide +kernel) ⟨by decide, by decide⟩ (Nat.le_of_ble_eq_true rfl) ⟨Nat.le_of_ble_eq_true rfl, Nat.le_of_ble_eq_true rfl⟩ rfl (by decide) sh_90 rfl rfl dL_law_493 (fun z1 M1 q1 => ?_)
  refine vv_aload_n X 2 rfl rfl dL_law_496 ?_
  refine vv_aload_n X 0 rfl rfl dL_law_497 ?_
  refine vv_iload_n X 3 rfl rfl dL_law_498 ?_
  refine vv_iconst (n := 1) X dL_law_499 ?_
  refine vv_iadd X dL_law_500 ?_
  refine vv_sld (z := a1) X hX hbl (by omega) hL e1 dL_law_501 ?_
  refine vv_aload_n X 0 rfl rfl dL_law_502 ?_
  refine vv_iload_n X 3 rfl rfl dL_law_503 ?_
  refine vv_iconst (n := 2) X dL_law_504 ?_
  refine vv_iadd X dL_law_505 ?_
  refine vv_sld (z := a2) X hX hbl (by omega) hL e2 dL_law_506 ?_
  refine vv_callVI (As := [.int (zI a1), .int (zI a2)]) (st := [.int (zI z1)]) (Nf := 20) X 2 (c_X9_envelope l D cA had M1 a1 a2 h1 h2 (q_RW hR q1.2).1) gL_law_X9_envelope rfl (by decide +kernel) ⟨by decide, by decide⟩ (Nat.le_of_ble_eq_true rfl) ⟨Nat.le_of_ble_eq_true rfl, Nat.le_of_ble_eq_true rfl⟩ rfl (by decide) sh_105 rfl rfl dL_law_507 (fun z2 M2 q2 => ?_)
  rw [(q_RW hR q1.2).2.1] at q2
  have ez := det_qEnv hR.1.1 hR.1.2.1 q1.1 q2.1
  have hR2 := R_q hR q1.2 q2.2
  refine vv_same (tgt := 722) X ez dL_law_510 (by decide) ?_
  exact nx M2 hR2
set_option maxRecDepth 100000 in
set_option maxHeartbeats 4000000 in
theorem law_best {p : Program} {l : Launch} {e : Env} {s : State} {m : MethodId} {below : List Frame} {meth : Method} {c : Code} {D : va_G} {ad : Nat → Nat} {cA : Nat → ClassId} {b L : Nat} {xs : Nat → Int32} (X : Cx p s m #[Value.ref b] c cL_law RL 4 wsL_law D ad cA (AL s)) (hX : va_X b L xs s s.heap) (hbl : b < s.heap.size) (hL : L < 2147483648) {i : Int} {M : Mem} (hi : 0 ≤ i ∧ i + 5 ≤ (L : Int)) (hR : REL M) (nx : ∀ M2 : Mem, REL M2 → VV p l e room_1 s m #[Value.ref b] below meth c 4 D ad cA (AL s) 113 1299 (lw_Z below #[Value.ref b] s) M2 722 [(0, .ref b), (1, .ref (ad 90)), (2, .ref (ad 105)), (3, .int (zI i))] []) : VV p l e room_1 s m #[Value.ref b] below meth c 4 D ad cA (AL s) 113 1299 (lw_Z below #[Value.ref b] s) M 515 [(0, .ref b), (1, .ref (ad 90)), (2, .ref (ad 105)), (3, .int (zI i))] [] := by
  have had := X.2.2.2.1
  obtain ⟨a1, h1, e1⟩ := sc xs (i + 1).toNat
  obtain ⟨a2, h2, e2⟩ := sc xs (i + 2).toNat
  refine vv_aload_n X 1 rfl rfl dL_law_515 ?_
  refine vv_aload_n X 0 rfl rfl dL_law_516 ?_
  refine vv_iload_n X 3 rfl rfl dL_law_517 ?_
  refine vv_iconst (n := 1) X dL_law_518 ?_
  refine vv_iadd X dL_law_519 ?_
  refine vv_sld (z := a1) X hX hbl (by omega) hL e1 dL_law_520 ?_
  refine vv_aload_n X 0 rfl rfl dL_law_521 ?_
  refine vv_iload_n X 3 rfl rfl dL_law_522 ?_
  refine vv_iconst (n := 2) X dL_law_523 ?_
  refine vv_iadd X dL_law_524 ?_
  refine vv_sld (z := a2) X hX hbl (by omega) hL e2 dL_law_525 ?_
  refine vv_callVI (As := [.int (zI a1), .int (zI a2)]) (st := []) (Nf := 9) X 2 (c_X8_best l D cA had M a1 a2 h1 h2 hR.1.2.1) gL_law_X8_best rfl (by decide +kernel) ⟨by decide, by decide⟩ (Nat.le_of_ble_eq_true rfl) ⟨Nat.le_of_ble_eq_true rfl, Nat.le_of_ble_eq_true rfl⟩ rfl (by decide) sh_90 rfl rfl dL_law_526 (fun z1 M1 q1 => ?_)
  refine vv_aload_n X 2 rfl rfl dL_law_529 ?_
  refine vv_aload_n X 0 rfl rfl dL_law_530 ?_
  refine vv_iload_n X 3 rfl rfl dL_law_531 ?_
  refine vv_iconst (n := 1) X dL_law_532 ?_
  refine vv_iadd X dL_law_533 ?_
  refine vv_sld (z := a1) X hX hbl (by omega) hL e1 dL_law_534 ?_
  refine vv_aload_n X 0 rfl rfl dL_law_535 ?_
  refine vv_iload_n X 3 rfl rfl dL_law_536 ?_
  refine vv_iconst (n := 2) X dL_law_537 ?_
  refine vv_iadd X dL_law_538 ?_
  refine vv_sld (z := a2) X hX hbl (by omega) hL e2 dL_law_539 ?_
  refine vv_callVI (As := [.int (zI a1), .int (zI a2)]) (st := [.int (zI z1)]) (Nf := 20) X 2 (c_X9_best l D cA had M1 a1 a2 h1 h2 (q_RW hR q1.2).1) gL_law_X9_best rfl (by decide +kernel) ⟨by decide, by decide⟩ (Nat.le_of_ble_eq_true rfl) ⟨Nat.le_of_ble_eq_true rfl, Nat.le_of_ble_eq_true rfl⟩ rfl (by decide) sh_105 rfl rfl dL_law_540 (fun z2 M2 q2 => ?_)
  rw [(q_RW hR q1.2).2.1] at q2
  have ez := det_qBst hR.1.1 hR.1.2.1 q1.1 q2.1
  have hR2 := R_q hR q1.2 q2.2
  refine vv_same (tgt := 722) X ez dL_law_543 (by decide) ?_
  exact nx M2 hR2
set_option maxRecDepth 100000 in
set_option maxHeartbeats 4000000 in
theorem law_mostGained {p : Program} {l : Launch} {e : Env} {s : State} {m : MethodId} {below : List Frame} {meth : Method} {c : Code} {D : va_G} {ad : Nat → Nat} {cA : Nat → ClassId} {b L : Nat} {xs : Nat → Int32} (X : Cx p s m #[Value.ref b] c cL_law RL 4 wsL_law D ad cA (AL s)) (hX : va_X b L xs s s.heap) (hbl : b < s.heap.size) (hL : L < 2147483648) {i : Int} {M : Mem} (hi : 0 ≤ i ∧ i + 5 ≤ (L : Int)) (hR : REL M) (nx : ∀ M2 : Mem, REL M2 → VV p l e room_1 s m #[Value.ref b] below meth c 4 D ad cA (AL s) 113 1299 (lw_Z below #[Value.ref b] s) M2 722 [(0, .ref b), (1, .ref (ad 90)), (2, .ref (ad 105)), (3, .int (zI i))] []) : VV p l e room_1 s m #[Value.ref b] below meth c 4 D ad cA (AL s) 113 1299 (lw_Z below #[Value.ref b] s) M 548 [(0, .ref b), (1, .ref (ad 90)), (2, .ref (ad 105)), (3, .int (zI i))] [] := by
  have had := X.2.2.2.1
  obtain ⟨a1, h1, e1⟩ := sc xs (i + 1).toNat
  refine vv_aload_n X 1 rfl rfl dL_law_548 ?_
  refine vv_aload_n X 0 rfl rfl dL_law_549 ?_
  refine vv_iload_n X 3 rfl rfl dL_law_550 ?_
  refine vv_iconst (n := 1) X dL_law_551 ?_
  refine vv_iadd X dL_law_552 ?_
  refine vv_sld (z := a1) X hX hbl (by omega) hL e1 dL_law_553 ?_
  refine vv_callVI (As := [.int (zI a1)]) (st := []) (Nf := 9) X 1 (c_X8_mostGained l D cA had M a1 h1 hR.1.2.1) gL_law_X8_mostGained rfl (by decide +kernel) ⟨by decide, by decide⟩ (Nat.le_of_ble_eq_true rfl) ⟨Nat.le_of_ble_eq_true rfl, Nat.le_of_ble_eq_true rfl⟩ rfl (by decide) sh_90 rfl rfl dL_law_554 (fun z1 M1 q1 => ?_)
  refine vv_aload_n X 2 rfl rfl dL_law_557 ?_
  refine vv_aload_n X 0 rfl rfl dL_law_558 ?_
  refine vv_iload_n X 3 rfl rfl dL_law_559 ?_
  refine vv_iconst (n := 1) X dL_law_560 ?_
  refine vv_iadd X dL_law_561 ?_
  refine vv_sld (z := a1) X hX hbl (by omega) hL e1 dL_law_562 ?_
  refine vv_callVI (As := [.int (zI a1)]) (st := [.int (zI z1)]) (Nf := 20) X 1 (c_X9_mostGained l D cA had M1 a1 h1 (q_RW hR q1.2).1) gL_law_X9_mostGained rfl (by decide +kernel) ⟨by decide, by decide⟩ (Nat.le_of_ble_eq_true rfl) ⟨Nat.le_of_ble_eq_true rfl, Nat.le_of_ble_eq_true rfl⟩ rfl (by decide) sh_105 rfl rfl dL_law_563 (fun z2 M2 q2 => ?_)
  rw [(q_RW hR q1.2).2.1] at q2
  have ez := det_qMG hR.1.1 hR.1.2.1 q1.1 q2.1
  have hR2 := R_q hR q1.2 q2.2
  refine vv_same (tgt := 722) X ez dL_law_566 (by decide) ?_
  exact nx M2 hR2
set_option maxRecDepth 100000 in
set_option maxHeartbeats 4000000 in
theorem law_put {p : Program} {l : Launch} {e : Env} {s : State} {m : MethodId} {below : List Frame} {meth : Method} {c : Code} {D : va_G} {ad : Nat → Nat} {cA : Nat → ClassId} {b L : Nat} {xs : Nat → Int32} (X : Cx p s m #[Value.ref b] c cL_law RL 4 wsL_law D ad cA (AL s)) (hX : va_X b L xs s s.heap) (hbl : b < s.heap.size) (hL : L < 2147483648) {i : Int} {M : Mem} (hi : 0 ≤ i ∧ i + 5 ≤ (L : Int)) (hR : REL M) (nx : ∀ M2 : Mem, REL M2 → VV p l e room_1 s m #[Value.ref b] below meth c 4 D ad cA (AL s) 113 1299 (lw_Z below #[Value.ref b] s) M2 722 [(0, .ref b), (1, .ref (ad 90)), (2, .ref (ad 105)), (3, .int (zI i))] []) : VV p l e room_1 s m #[Value.ref b] below meth c 4 D ad cA (AL s) 113 1299 (lw_Z below #[Value.ref b] s) M 571 [(0, .ref b), (1, .ref (ad 90)), (2, .ref (ad 105)), (3, .int (zI i))] [] := by
  have had := X.2.2.2.1
  obtain ⟨a1, h1, e1⟩ := sc xs (i + 1).toNat
  obtain ⟨a2, h2, e2⟩ := sc xs (i + 2).toNat
  refine vv_aload_n X 1 rfl rfl dL_law_571 ?_
  refine vv_aload_n X 0 rfl rfl dL_law_572 ?_
  refine vv_iload_n X 3 rfl rfl dL_law_573 ?_
  refine vv_iconst (n := 1) X dL_law_574 ?_
  refine vv_iadd X dL_law_575 ?_
  refine vv_sld (z := a1) X hX hbl (by omega) hL e1 dL_law_576 ?_
  refine vv_i2l X rfl dL_law_577 ?_
  refine vv_bipush (n := 32) X (by decide) dL_law_578 ?_
  refine vv_lshl X rfl dL_law_580 ?_
  refine vv_aload_n X 0 rfl rfl dL_law_581 ?_
  refine vv_iload_n X 3 rfl rfl dL_law_582 ?_
  refine vv_iconst (n := 2) X dL_law_583 ?_
  refine vv_iadd X dL_law_584 ?_
  refine vv_sld (z := a2) X hX hbl (by omega) hL e2 dL_law_585 ?_
  refine vv_i2l X rfl dL_law_586 ?_
  refine vv_ldc2 (v := 4294967295) X (by decide +kernel) dL_law_587 ?_
  refine vv_land X rfl dL_law_590 ?_
  refine vv_lor X rfl dL_law_591 ?_
  refine vv_nm (fun u1 hu1 eu1 => ?_)
  refine vv_callVI (As := [.long (uL u1)]) (st := []) (Nf := 9) X 1 (c_X8_put l D cA had M u1 hu1 hR.2.2.2.1.1) gL_law_X8_put rfl (by decide +kernel) ⟨by decide, by decide⟩ (Nat.le_of_ble_eq_true rfl) ⟨Nat.le_of_ble_eq_true rfl, Nat.le_of_ble_eq_true rfl⟩ rfl (by decide) sh_90 rfl rfl dL_law_592 (fun z1 M1 q1 => ?_)
  refine vv_aload_n X 2 rfl rfl dL_law_595 ?_
  refine vv_aload_n X 0 rfl rfl dL_law_596 ?_
  refine vv_iload_n X 3 rfl rfl dL_law_597 ?_
  refine vv_iconst (n := 1) X dL_law_598 ?_
  refine vv_iadd X dL_law_599 ?_
  refine vv_sld (z := a1) X hX hbl (by omega) hL e1 dL_law_600 ?_
  refine vv_i2l X rfl dL_law_601 ?_
  refine vv_bipush (n := 32) X (by decide) dL_law_602 ?_
  refine vv_lshl X rfl dL_law_604 ?_
  refine vv_aload_n X 0 rfl rfl dL_law_605 ?_
  refine vv_iload_n X 3 rfl rfl dL_law_606 ?_
  refine vv_iconst (n := 2) X dL_law_607 ?_
  refine vv_iadd X dL_law_608 ?_
  refine vv_sld (z := a2) X hX hbl (by omega) hL e2 dL_law_609 ?_
  refine vv_i2l X rfl dL_law_610 ?_
  refine vv_ldc2 (v := 4294967295) X (by decide +kernel) dL_law_611 ?_
  refine vv_land X rfl dL_law_614 ?_
  refine vv_lor X rfl dL_law_615 ?_
  refine vv_nm (fun u2 hu2 eu2 => ?_)
  have e9 := uL_inj hu1 hu2 (eu1.symm.trans eu2)
  subst e9
  refine vv_callVI (As := [.long (uL u1)]) (st := [.int (zI z1)]) (Nf := 20) X 1 (c_X9_put l D cA had M1 u1 hu1 (put_len hR q1.2.1)) gL_law_X9_put rfl (by decide +kernel) ⟨by decide, by decide⟩ (Nat.le_of_ble_eq_true rfl) ⟨Nat.le_of_ble_eq_true rfl, Nat.le_of_ble_eq_true rfl⟩ rfl (by decide) sh_105 rfl rfl dL_law_616 (fun z2 M2 q2 => ?_)
  obtain ⟨ez, hR2⟩ := R_put hR q1 q2
  refine vv_same (tgt := 722) X ez dL_law_619 (by decide) ?_
  exact nx M2 hR2
set_option maxRecDepth 100000 in
set_option maxHeartbeats 4000000 in
theorem law_wipe {p : Program} {l : Launch} {e : Env} {s : State} {m : MethodId} {below : List Frame} {meth : Method} {c : Code} {D : va_G} {ad : Nat → Nat} {cA : Nat → ClassId} {b L : Nat} {xs : Nat → Int32} (X : Cx p s m #[Value.ref b] c cL_law RL 4 wsL_law D ad cA (AL s)) (hX : va_X b L xs s s.heap) (hbl : b < s.heap.size) (hL : L < 2147483648) {i : Int} {M : Mem} (hi : 0 ≤ i ∧ i + 5 ≤ (L : Int)) (hR : REL M) (nx : ∀ M2 : Mem, REL M2 → VV p l e room_1 s m #[Value.ref b] below meth c 4 D ad cA (AL s) 113 1299 (lw_Z below #[Value.ref b] s) M2 722 [(0, .ref b), (1, .ref (ad 90)), (2, .ref (ad 105)), (3, .int (zI i))] []) : VV p l e room_1 s m #[Value.ref b] below meth c 4 D ad cA (AL s) 113 1299 (lw_Z below #[Value.ref b] s) M 624 [(0, .ref b), (1, .ref (ad 90)), (2, .ref (ad 105)), (3, .int (zI i))] [] := by
  have had := X.2.2.2.1
  refine vv_aload_n X 1 rfl rfl dL_law_624 ?_
  refine vv_callVI (As := []) (st := []) (Nf := 9) X 0 (c_X8_wipe l D cA had M) gL_law_X8_wipe rfl (by decide +kernel) ⟨by decide, by decide⟩ (Nat.le_of_ble_eq_true rfl) ⟨Nat.le_of_ble_eq_true rfl, Nat.le_of_ble_eq_true rfl⟩ rfl (by decide) sh_90 rfl rfl dL_law_625 (fun z1 M1 q1 => ?_)
  refine vv_aload_n X 2 rfl rfl dL_law_628 ?_
  refine vv_callVI (As := []) (st := [.int (zI z1)]) (Nf := 20) X 0 (c_X9_wipe l D cA had M1) gL_law_X9_wipe rfl (by decide +kernel) ⟨by decide, by decide⟩ (Nat.le_of_ble_eq_true rfl) ⟨Nat.le_of_ble_eq_true rfl, Nat.le_of_ble_eq_true rfl⟩ rfl (by decide) sh_105 rfl rfl dL_law_629 (fun z2 M2 q2 => ?_)
  obtain ⟨qa, qb⟩ := q1
  subst qb
  obtain ⟨qc, qd⟩ := q2
  subst qd
  obtain ⟨ew, hR2⟩ := R_wipe hR
  have ez : z1 = z2 := qa.trans (ew.trans qc.symm)
  refine vv_same (tgt := 722) X ez dL_law_632 (by decide) ?_
  exact nx _ hR2
set_option maxRecDepth 100000 in
set_option maxHeartbeats 4000000 in
theorem law_fault {p : Program} {l : Launch} {e : Env} {s : State} {m : MethodId} {below : List Frame} {meth : Method} {c : Code} {D : va_G} {ad : Nat → Nat} {cA : Nat → ClassId} {b L : Nat} {xs : Nat → Int32} (X : Cx p s m #[Value.ref b] c cL_law RL 4 wsL_law D ad cA (AL s)) (hX : va_X b L xs s s.heap) (hbl : b < s.heap.size) (hL : L < 2147483648) {i : Int} {M : Mem} (hi : 0 ≤ i ∧ i + 5 ≤ (L : Int)) (hR : REL M) (nx : ∀ M2 : Mem, REL M2 → VV p l e room_1 s m #[Value.ref b] below meth c 4 D ad cA (AL s) 113 1299 (lw_Z below #[Value.ref b] s) M2 722 [(0, .ref b), (1, .ref (ad 90)), (2, .ref (ad 105)), (3, .int (zI i))] []) : VV p l e room_1 s m #[Value.ref b] below meth c 4 D ad cA (AL s) 113 1299 (lw_Z below #[Value.ref b] s) M 637 [(0, .ref b), (1, .ref (ad 90)), (2, .ref (ad 105)), (3, .int (zI i))] [] := by
  have had := X.2.2.2.1
  obtain ⟨t0, ht0⟩ := hR.2.2.2.2.2
  refine vv_aload_n X 1 rfl rfl dL_law_637 ?_
  refine vv_callVI (As := []) (st := []) (Nf := 9) X 0 (c_X8_fault l D cA had M t0 ht0 hR.2.2.2.1) gL_law_X8_fault rfl (by decide +kernel) ⟨by decide, by decide⟩ (Nat.le_of_ble_eq_true rfl) ⟨Nat.le_of_ble_eq_true rfl, Nat.le_of_ble_eq_true rfl⟩ rfl (by decide) sh_90 rfl rfl dL_law_638 (fun z1 M1 q1 => ?_)
  refine vv_aload_n X 2 rfl rfl dL_law_641 ?_
  refine vv_callVI (As := []) (st := [.int (zI z1)]) (Nf := 20) X 0 (c_X9_fault l D cA had M1 (cC M) (M 95 2).toNat (RS0_of hR.2.2 (q1.2.1.1 110 (by decide)) (by rw [q1.2.1.1 105 (by decide)]))) gL_law_X9_fault rfl (by decide +kernel) ⟨by decide, by decide⟩ (Nat.le_of_ble_eq_true rfl) ⟨Nat.le_of_ble_eq_true rfl, Nat.le_of_ble_eq_true rfl⟩ rfl (by decide) sh_105 rfl rfl dL_law_642 (fun z2 M2 q2 => ?_)
  have ez : z1 = z2 := q1.1.trans q2.1.symm
  have hR2 := R_fault hR q1.2.1 q1.2.2 q2.2
  refine vv_same (tgt := 722) X ez dL_law_645 (by decide) ?_
  exact nx M2 hR2
set_option maxRecDepth 100000 in
set_option maxHeartbeats 4000000 in
theorem law_carryOut {p : Program} {l : Launch} {e : Env} {s : State} {m : MethodId} {below : List Frame} {meth : Method} {c : Code} {D : va_G} {ad : Nat → Nat} {cA : Nat → ClassId} {b L : Nat} {xs : Nat → Int32} (X : Cx p s m #[Value.ref b] c cL_law RL 4 wsL_law D ad cA (AL s)) (hX : va_X b L xs s s.heap) (hbl : b < s.heap.size) (hL : L < 2147483648) {i : Int} {M : Mem} (hi : 0 ≤ i ∧ i + 5 ≤ (L : Int)) (hR : REL M) (nx : ∀ M2 : Mem, REL M2 → VV p l e room_1 s m #[Value.ref b] below meth c 4 D ad cA (AL s) 113 1299 (lw_Z below #[Value.ref b] s) M2 722 [(0, .ref b), (1, .ref (ad 90)), (2, .ref (ad 105)), (3, .int (zI i))] []) : VV p l e room_1 s m #[Value.ref b] below meth c 4 D ad cA (AL s) 113 1299 (lw_Z below #[Value.ref b] s) M 650 [(0, .ref b), (1, .ref (ad 90)), (2, .ref (ad 105)), (3, .int (zI i))] [] := by
  have had := X.2.2.2.1
  obtain ⟨t0, ht0⟩ := hR.2.2.2.2.2
  refine vv_aload_n X 1 rfl rfl dL_law_650 ?_
  refine vv_callVI (As := []) (st := []) (Nf := 9) X 0 (c_X8_carryOut l D cA had M t0 ht0 hR.2.2.2.1 hR.1.2.2.1 hR.1.2.1) gL_law_X8_carryOut rfl (by decide +kernel) ⟨by decide, by decide⟩ (Nat.le_of_ble_eq_true rfl) ⟨Nat.le_of_ble_eq_true rfl, Nat.le_of_ble_eq_true rfl⟩ rfl (by decide) sh_90 rfl rfl dL_law_651 (fun z1 M1 q1 => ?_)
  refine vv_aload_n X 2 rfl rfl dL_law_654 ?_
  refine vv_callVI (As := []) (st := [.int (zI z1)]) (Nf := 20) X 0 (c_X9_carryOut l D cA had M1 (cC M) (M 95 2).toNat (carry_pre hR q1).1 (carry_pre hR q1).2) gL_law_X9_carryOut rfl (by decide +kernel) ⟨by decide, by decide⟩ (Nat.le_of_ble_eq_true rfl) ⟨Nat.le_of_ble_eq_true rfl, Nat.le_of_ble_eq_true rfl⟩ rfl (by decide) sh_105 rfl rfl dL_law_655 (fun z2 M2 q2 => ?_)
  obtain ⟨ez, hR2⟩ := R_carry hR q1 q2
  refine vv_same (tgt := 722) X ez dL_law_658 (by decide) ?_
  exact nx M2 hR2
set_option maxRecDepth 100000 in
set_option maxHeartbeats 4000000 in
theorem law_undo {p : Program} {l : Launch} {e : Env} {s : State} {m : MethodId} {below : List Frame} {meth : Method} {c : Code} {D : va_G} {ad : Nat → Nat} {cA : Nat → ClassId} {b L : Nat} {xs : Nat → Int32} (X : Cx p s m #[Value.ref b] c cL_law RL 4 wsL_law D ad cA (AL s)) (hX : va_X b L xs s s.heap) (hbl : b < s.heap.size) (hL : L < 2147483648) {i : Int} {M : Mem} (hi : 0 ≤ i ∧ i + 5 ≤ (L : Int)) (hR : REL M) (nx : ∀ M2 : Mem, REL M2 → VV p l e room_1 s m #[Value.ref b] below meth c 4 D ad cA (AL s) 113 1299 (lw_Z below #[Value.ref b] s) M2 722 [(0, .ref b), (1, .ref (ad 90)), (2, .ref (ad 105)), (3, .int (zI i))] []) : VV p l e room_1 s m #[Value.ref b] below meth c 4 D ad cA (AL s) 113 1299 (lw_Z below #[Value.ref b] s) M 663 [(0, .ref b), (1, .ref (ad 90)), (2, .ref (ad 105)), (3, .int (zI i))] [] := by
  have had := X.2.2.2.1
  obtain ⟨t0, ht0⟩ := hR.2.2.2.2.2
  refine vv_aload_n X 1 rfl rfl dL_law_663 ?_
  refine vv_callVI (As := []) (st := []) (Nf := 9) X 0 (c_X8_undo l D cA had M hR.1.2.2.1 (fun g => (hR.1.2.2.2.2.2 0 g).2)) gL_law_X8_undo rfl (by decide +kernel) ⟨by decide, by decide⟩ (Nat.le_of_ble_eq_true rfl) ⟨Nat.le_of_ble_eq_true rfl, Nat.le_of_ble_eq_true rfl⟩ rfl (by decide) sh_90 rfl rfl dL_law_664 (fun z1 M1 q1 => ?_)
  refine vv_aload_n X 2 rfl rfl dL_law_667 ?_
  refine vv_callVI (As := []) (st := [.int (zI z1)]) (Nf := 20) X 0 (c_X9_undo l D cA had M1 (undo_RW hR ⟨q1.1, q1.2.1⟩)) gL_law_X9_undo rfl (by decide +kernel) ⟨by decide, by decide⟩ (Nat.le_of_ble_eq_true rfl) ⟨Nat.le_of_ble_eq_true rfl, Nat.le_of_ble_eq_true rfl⟩ rfl (by decide) sh_105 rfl rfl dL_law_668 (fun z2 M2 q2 => ?_)
  obtain ⟨ez, hR2⟩ := R_undo hR ⟨t0, by rw [q1.2.2]; exact ht0⟩ ⟨q1.1, q1.2.1⟩ q2
  refine vv_same (tgt := 722) X ez dL_law_671 (by decide) ?_
  exact nx M2 hR2
set_option maxRecDepth 100000 in
set_option maxHeartbeats 4000000 in
theorem law_save {p : Program} {l : Launch} {e : Env} {s : State} {m : MethodId} {below : List Frame} {meth : Method} {c : Code} {D : va_G} {ad : Nat → Nat} {cA : Nat → ClassId} {b L : Nat} {xs : Nat → Int32} (X : Cx p s m #[Value.ref b] c cL_law RL 4 wsL_law D ad cA (AL s)) (hX : va_X b L xs s s.heap) (hbl : b < s.heap.size) (hL : L < 2147483648) {i : Int} {M : Mem} (hi : 0 ≤ i ∧ i + 5 ≤ (L : Int)) (hR : REL M) (nx : ∀ M2 : Mem, REL M2 → VV p l e room_1 s m #[Value.ref b] below meth c 4 D ad cA (AL s) 113 1299 (lw_Z below #[Value.ref b] s) M2 722 [(0, .ref b), (1, .ref (ad 90)), (2, .ref (ad 105)), (3, .int (zI i))] []) : VV p l e room_1 s m #[Value.ref b] below meth c 4 D ad cA (AL s) 113 1299 (lw_Z below #[Value.ref b] s) M 676 [(0, .ref b), (1, .ref (ad 90)), (2, .ref (ad 105)), (3, .int (zI i))] [] := by
  have had := X.2.2.2.1
  obtain ⟨a1, h1, e1⟩ := sc xs (i + 1).toNat
  refine vv_aload_n X 1 rfl rfl dL_law_676 ?_
  refine vv_aload_n X 0 rfl rfl dL_law_677 ?_
  refine vv_iload_n X 3 rfl rfl dL_law_678 ?_
  refine vv_iconst (n := 1) X dL_law_679 ?_
  refine vv_iadd X dL_law_680 ?_
  refine vv_sld (z := a1) X hX hbl (by omega) hL e1 dL_law_681 ?_
  refine vv_callVI (As := [.int (zI a1)]) (st := []) (Nf := 9) X 1 (c_X8_save l D cA had M a1 h1) gL_law_X8_save rfl (by decide +kernel) ⟨by decide, by decide⟩ (Nat.le_of_ble_eq_true rfl) ⟨Nat.le_of_ble_eq_true rfl, Nat.le_of_ble_eq_true rfl⟩ rfl (by decide) sh_90 rfl rfl dL_law_682 (fun z1 M1 q1 => ?_)
  refine vv_aload_n X 2 rfl rfl dL_law_685 ?_
  refine vv_aload_n X 0 rfl rfl dL_law_686 ?_
  refine vv_iload_n X 3 rfl rfl dL_law_687 ?_
  refine vv_iconst (n := 1) X dL_law_688 ?_
  refine vv_iadd X dL_law_689 ?_
  refine vv_sld (z := a1) X hX hbl (by omega) hL e1 dL_law_690 ?_
  refine vv_callVI (As := [.int (zI a1)]) (st := [.int (zI z1)]) (Nf := 20) X 1 (c_X9_save l D cA had M1 a1 h1) gL_law_X9_save rfl (by decide +kernel) ⟨by decide, by decide⟩ (Nat.le_of_ble_eq_true rfl) ⟨Nat.le_of_ble_eq_true rfl, Nat.le_of_ble_eq_true rfl⟩ rfl (by decide) sh_105 rfl rfl dL_law_691 (fun z2 M2 q2 => ?_)
  obtain ⟨ez, hR2⟩ := R_save hR q1 q2
  refine vv_same (tgt := 722) X ez dL_law_694 (by decide) ?_
  exact nx M2 hR2
set_option maxRecDepth 100000 in
set_option maxHeartbeats 4000000 in
theorem law_restore {p : Program} {l : Launch} {e : Env} {s : State} {m : MethodId} {below : List Frame} {meth : Method} {c : Code} {D : va_G} {ad : Nat → Nat} {cA : Nat → ClassId} {b L : Nat} {xs : Nat → Int32} (X : Cx p s m #[Value.ref b] c cL_law RL 4 wsL_law D ad cA (AL s)) (hX : va_X b L xs s s.heap) (hbl : b < s.heap.size) (hL : L < 2147483648) {i : Int} {M : Mem} (hi : 0 ≤ i ∧ i + 5 ≤ (L : Int)) (hR : REL M) (nx : ∀ M2 : Mem, REL M2 → VV p l e room_1 s m #[Value.ref b] below meth c 4 D ad cA (AL s) 113 1299 (lw_Z below #[Value.ref b] s) M2 722 [(0, .ref b), (1, .ref (ad 90)), (2, .ref (ad 105)), (3, .int (zI i))] []) : VV p l e room_1 s m #[Value.ref b] below meth c 4 D ad cA (AL s) 113 1299 (lw_Z below #[Value.ref b] s) M 699 [(0, .ref b), (1, .ref (ad 90)), (2, .ref (ad 105)), (3, .int (zI i))] [] := by
  have had := X.2.2.2.1
  obtain ⟨a1, h1, e1⟩ := sc xs (i + 1).toNat
  refine vv_aload_n X 1 rfl rfl dL_law_699 ?_
  refine vv_aload_n X 0 rfl rfl dL_law_700 ?_
  refine vv_iload_n X 3 rfl rfl dL_law_701 ?_
  refine vv_iconst (n := 1) X dL_law_702 ?_
  refine vv_iadd X dL_law_703 ?_
  refine vv_sld (z := a1) X hX hbl (by omega) hL e1 dL_law_704 ?_
  refine vv_callVI (As := [.int (zI a1)]) (st := []) (Nf := 9) X 1 (c_X8_restore l D cA had M a1 h1 hR.1.2.2.1 hR.1.2.1 (rest_c hR).1 (rest_c (x := a1) hR).2) gL_law_X8_restore rfl (by decide +kernel) ⟨by decide, by decide⟩ (Nat.le_of_ble_eq_true rfl) ⟨Nat.le_of_ble_eq_true rfl, Nat.le_of_ble_eq_true rfl⟩ rfl (by decide) sh_90 rfl rfl dL_law_705 (fun z1 M1 q1 => ?_)
  refine vv_aload_n X 2 rfl rfl dL_law_708 ?_
  refine vv_aload_n X 0 rfl rfl dL_law_709 ?_
  refine vv_iload_n X 3 rfl rfl dL_law_710 ?_
  refine vv_iconst (n := 1) X dL_law_711 ?_
  refine vv_iadd X dL_law_712 ?_
  refine vv_sld (z := a1) X hX hbl (by omega) hL e1 dL_law_713 ?_
  refine vv_callVI (As := [.int (zI a1)]) (st := [.int (zI z1)]) (Nf := 20) X 1 (c_X9_restore l D cA had M1 a1 h1 (RW_of hR (rest_e q1)) (rest_r hR (rest_e q1)).1 (rest_r (x := a1) hR (rest_e q1)).2) gL_law_X9_restore rfl (by decide +kernel) ⟨by decide, by decide⟩ (Nat.le_of_ble_eq_true rfl) ⟨Nat.le_of_ble_eq_true rfl, Nat.le_of_ble_eq_true rfl⟩ rfl (by decide) sh_105 rfl rfl dL_law_714 (fun z2 M2 q2 => ?_)
  obtain ⟨ez, hR2⟩ := R_rest hR q1 q2
  refine vv_same (tgt := 722) X ez dL_law_717 (by decide) ?_
  exact nx M2 hR2
set_option maxRecDepth 100000 in
set_option maxHeartbeats 4000000 in
theorem law_loop {p : Program} {l : Launch} {e : Env} {s : State} {m : MethodId} {below : List Frame} {meth : Method} {c : Code} {D : va_G} {ad : Nat → Nat} {cA : Nat → ClassId} {b L : Nat} {xs : Nat → Int32} (X : Cx p s m #[Value.ref b] c cL_law RL 4 wsL_law D ad cA (AL s)) (hX : va_X b L xs s s.heap) (hbl : b < s.heap.size) (hL : L < 2147483648) (hr : meth.sig.returnType = ret) (hlocks : meth.locks = false) : ∀ (n : Nat) (i : Int) (M : Mem), (0 ≤ i ∧ i ≤ (L : Int)) → REL M → ((L : Int) - i).toNat < n → VV p l e room_1 s m #[Value.ref b] below meth c 4 D ad cA (AL s) 113 1299 (lw_Z below #[Value.ref b] s) M 18 [(0, .ref b), (1, .ref (ad 90)), (2, .ref (ad 105)), (3, .int (zI i))] [] := by
  intro n
  induction n with
  | zero => intro i M hi hR hn; exact absurd hn (Nat.not_lt_zero _)
  | succ n ih =>
    intro i M hi hR hn
    refine vv_iload_n X 3 rfl rfl dL_law_18 ?_
    refine vv_aload_n X 0 rfl rfl dL_law_19 ?_
    refine vv_slen X hX hbl dL_law_20 ?_
    refine vv_iconst (n := 5) X dL_law_21 ?_
    refine vv_isub X dL_law_22 ?_
    refine vv_icmp_gt (tgt := 728) X (by omega) (by omega) dL_law_23 (by decide) (fun c_23 => ?_) (fun c_23 => ?_)
    · refine vv_iconst (n := 1) X dL_law_728 ?_
      exact vv_lawret X.1.1 X.1.2.1 hr hlocks ⟨by decide, by decide⟩ dL_law_729
    · have hi5 : 0 ≤ i ∧ i + 5 ≤ (L : Int) := by omega
      have nx : ∀ M2 : Mem, REL M2 → VV p l e room_1 s m #[Value.ref b] below meth c 4 D ad cA (AL s) 113 1299 (lw_Z below #[Value.ref b] s) M2 722 [(0, .ref b), (1, .ref (ad 90)), (2, .ref (ad 105)), (3, .int (zI i))] [] := fun M2 hR2 => by
        refine vv_iinc (lv' := [(3, .int (zI (i + 5))), (0, .ref b), (1, .ref (ad 90)), (2, .ref (ad 105))]) X 3 rfl (by decide) rfl dL_law_722 ?_
        refine vv_goto (tgt := 18) X (by decide) dL_law_725 ?_
        refine vv_sub (lv' := [(0, .ref b), (1, .ref (ad 90)), (2, .ref (ad 105)), (3, .int (zI (i + 5)))]) [1, 2, 3, 0] rfl ?_
        exact ih (i + 5) M2 (by omega) hR2 (by omega)
      obtain ⟨a0, h0, e0⟩ := sc xs i.toNat
      refine vv_aload_n X 0 rfl rfl dL_law_26 ?_
      refine vv_iload_n X 3 rfl rfl dL_law_27 ?_
      refine vv_sld (z := a0) X hX hbl (by omega) hL e0 dL_law_28 ?_
      refine vv_bipush (n := 31) X (by decide) dL_law_29 ?_
      obtain ⟨w, hw, ew⟩ := sc (fun _ => zI a0 &&& zI 31) 0
      refine vv_iand (a := w) X ew dL_law_31 ?_
      by_cases c0 : w < 0 ∨ 21 < w
      · exact vv_tabOut (tgt := 722) X hw dL_law_32 c0 (by decide) (nx M hR)
      by_cases c1 : w = 0
      · refine vv_tabIn (tgt := 136) (off := 104) X hw dL_law_32 (by omega) (by omega) (by rw [c1]; rfl) (by decide) ?_
        exact law_prior X hX hbl hL hi5 hR nx
      by_cases c2 : w = 1
      · refine vv_tabIn (tgt := 159) (off := 127) X hw dL_law_32 (by omega) (by omega) (by rw [c2]; rfl) (by decide) ?_
        exact law_hire X hX hbl hL hi5 hR nx
      by_cases c3 : w = 2
      · refine vv_tabIn (tgt := 212) (off := 180) X hw dL_law_32 (by omega) (by omega) (by rw [c3]; rfl) (by decide) ?_
        exact law_dismiss X hX hbl hL hi5 hR nx
      by_cases c4 : w = 3
      · refine vv_tabIn (tgt := 235) (off := 203) X hw dL_law_32 (by omega) (by omega) (by rw [c4]; rfl) (by decide) ?_
        exact law_refine X hX hbl hL hi5 hR nx
      by_cases c5 : w = 4
      · refine vv_tabIn (tgt := 278) (off := 246) X hw dL_law_32 (by omega) (by omega) (by rw [c5]; rfl) (by decide) ?_
        exact law_join X hX hbl hL hi5 hR nx
      by_cases c6 : w = 5
      · refine vv_tabIn (tgt := 301) (off := 269) X hw dL_law_32 (by omega) (by omega) (by rw [c6]; rfl) (by decide) ?_
        exact law_adopt X hX hbl hL hi5 hR nx
      by_cases c7 : w = 6
      · refine vv_tabIn (tgt := 314) (off := 282) X hw dL_law_32 (by omega) (by omega) (by rw [c7]; rfl) (by decide) ?_
        exact law_receiver X hX hbl hL hi5 hR nx
      by_cases c8 : w = 7
      · refine vv_tabIn (tgt := 347) (off := 315) X hw dL_law_32 (by omega) (by omega) (by rw [c8]; rfl) (by decide) ?_
        exact law_part X hX hbl hL hi5 hR nx
      by_cases c9 : w = 8
      · refine vv_tabIn (tgt := 380) (off := 348) X hw dL_law_32 (by omega) (by omega) (by rw [c9]; rfl) (by decide) ?_
        exact law_value X hX hbl hL hi5 hR nx
      by_cases c10 : w = 9
      · refine vv_tabIn (tgt := 403) (off := 371) X hw dL_law_32 (by omega) (by omega) (by rw [c10]; rfl) (by decide) ?_
        exact law_mean X hX hbl hL hi5 hR nx
      by_cases c11 : w = 10
      · refine vv_tabIn (tgt := 426) (off := 394) X hw dL_law_32 (by omega) (by omega) (by rw [c11]; rfl) (by decide) ?_
        exact law_worth X hX hbl hL hi5 hR nx
      by_cases c12 : w = 11
      · refine vv_tabIn (tgt := 459) (off := 427) X hw dL_law_32 (by omega) (by omega) (by rw [c12]; rfl) (by decide) ?_
        exact law_count X hX hbl hL hi5 hR nx
      by_cases c13 : w = 12
      · refine vv_tabIn (tgt := 482) (off := 450) X hw dL_law_32 (by omega) (by omega) (by rw [c13]; rfl) (by decide) ?_
        exact law_envelope X hX hbl hL hi5 hR nx
      by_cases c14 : w = 13
      · refine vv_tabIn (tgt := 515) (off := 483) X hw dL_law_32 (by omega) (by omega) (by rw [c14]; rfl) (by decide) ?_
        exact law_best X hX hbl hL hi5 hR nx
      by_cases c15 : w = 14
      · refine vv_tabIn (tgt := 548) (off := 516) X hw dL_law_32 (by omega) (by omega) (by rw [c15]; rfl) (by decide) ?_
        exact law_mostGained X hX hbl hL hi5 hR nx
      by_cases c16 : w = 15
      · refine vv_tabIn (tgt := 571) (off := 539) X hw dL_law_32 (by omega) (by omega) (by rw [c16]; rfl) (by decide) ?_
        exact law_put X hX hbl hL hi5 hR nx
      by_cases c17 : w = 16
      · refine vv_tabIn (tgt := 624) (off := 592) X hw dL_law_32 (by omega) (by omega) (by rw [c17]; rfl) (by decide) ?_
        exact law_wipe X hX hbl hL hi5 hR nx
      by_cases c18 : w = 17
      · refine vv_tabIn (tgt := 637) (off := 605) X hw dL_law_32 (by omega) (by omega) (by rw [c18]; rfl) (by decide) ?_
        exact law_fault X hX hbl hL hi5 hR nx
      by_cases c19 : w = 18
      · refine vv_tabIn (tgt := 650) (off := 618) X hw dL_law_32 (by omega) (by omega) (by rw [c19]; rfl) (by decide) ?_
        exact law_carryOut X hX hbl hL hi5 hR nx
      by_cases c20 : w = 19
      · refine vv_tabIn (tgt := 663) (off := 631) X hw dL_law_32 (by omega) (by omega) (by rw [c20]; rfl) (by decide) ?_
        exact law_undo X hX hbl hL hi5 hR nx
      by_cases c21 : w = 20
      · refine vv_tabIn (tgt := 676) (off := 644) X hw dL_law_32 (by omega) (by omega) (by rw [c21]; rfl) (by decide) ?_
        exact law_save X hX hbl hL hi5 hR nx
      have c22 : w = 21 := by omega
      refine vv_tabIn (tgt := 699) (off := 667) X hw dL_law_32 (by omega) (by omega) (by rw [c22]; rfl) (by decide) ?_
      exact law_restore X hX hbl hL hi5 hR nx
