/-! ===== the script, read by a method of the law's own; rows that the law wants besides ===== -/
section LC
variable {p : Program} {l : Launch} {e : Env} {R : Room} {s : State} {m : MethodId} {args : Array Value} {below : List Frame} {meth : Method} {c : Code} {Q : State → Prop} {cells slots : Nat}
variable {cc : ByteArray} {own : String} {nL : Nat} {Ts : List Cond} {D : va_G} {ad : Nat → Nat} {cA : Nat → ClassId} {A : Nat → Prop} {M : Mem} {pc : Nat} {lv lv' : List (Nat × Value)} {st st0 : List Value} {b L : Nat} {xs : Nat → Int32}
theorem ofNat_zI (n : Nat) : Int32.ofNat n = zI (n : Int) := rfl
theorem vv_slen (X : Cx p s m args c cc own nL Ts D ad cA A) (hX : va_X b L xs s s.heap) (hbl : b < s.heap.size) (hbA : ¬ A b) (hdg : decode cc pc = .ok (.arraylength, 1)) (k : VV p l e R s m args below meth c nL D ad cA A cells slots Q M (pc + 1) lv (.int (zI (L : Int)) :: st)) : VV p l e R s m args below meth c nL D ad cA A cells slots Q M pc lv (.ref b :: st) := fun H locs ls hP hS hl =>
  va_slen X.1.1 X.1.2.1 hX hbl hbA hS hdg (by rw [ofNat_zI]; exact k H locs ls hP hS hl)
theorem vv_sld (X : Cx p s m args c cc own nL Ts D ad cA A) (hX : va_X b L xs s s.heap) (hbl : b < s.heap.size) (hbA : ¬ A b) {a z : Int} (ha : 0 ≤ a ∧ a < (L : Int)) (hL : L < 2147483648) (hz : xs a.toNat = zI z) (hdg : decode cc pc = .ok (.iaload, 1)) (k : VV p l e R s m args below meth c nL D ad cA A cells slots Q M (pc + 1) lv (.int (zI z) :: st)) : VV p l e R s m args below meth c nL D ad cA A cells slots Q M pc lv (.int (zI a) :: .ref b :: st) := fun H locs ls hP hS hl =>
  va_sld X.1.1 X.1.2.1 hX hbl hbA hS (zI_in ha hL) hdg (by rw [zI_cl (by omega), hz]; exact k H locs ls hP hS hl)
theorem vv_dup_x2 (X : Cx p s m args c cc own nL Ts D ad cA A) {v w u : Value} (hc : v.category = 1) (hd : w.category = 1) (hu : u.category = 1) (hdg : decode cc pc = .ok (.dup_x2, 1)) (k : VV p l e R s m args below meth c nL D ad cA A cells slots Q M (pc + 1) lv (v :: w :: u :: v :: st)) : VV p l e R s m args below meth c nL D ad cA A cells slots Q M pc lv (v :: w :: u :: st) := fun H locs ls hP hS hl => lv_dup_x2 X.1.1 X.1.2.1 hdg hc hd hu (k H locs ls hP hS hl)
/-- where such a method starts: the world, and the script beside it -/
def PcS (D : va_G) (ad : Nat → Nat) (cA : Nat → ClassId) (M : Mem) (b L : Nat) (xs : Nat → Int32) (sz : Nat) (U : State) : Prop := PcB D ad cA M sz U ∧ va_X b L xs U U.heap ∧ b < sz ∧ ¬ Afr ad sz b
theorem PcS_blind {As : List Value} {sz : Nat} : FrameBlind (va_Pc As (PcS D ad cA M b L xs sz)) := fun a U g mk q => by
  obtain ⟨q0, ⟨q1, qP, qK, qN⟩, qX, qb, qA⟩ := q
  exact ⟨q0, ⟨q1, qP, va_K.moved (u := U) (U := U.calling g mk a) (Vm.Alike.refl U.vm) qK, vNs_same rfl qN⟩, va_X.moved (u := U) (U := U.calling g mk a) (Vm.Alike.refl U.vm) qX, qb, qA⟩
set_option maxRecDepth 100000 in
set_option maxHeartbeats 4000000 in
theorem c_L_cell (l : Launch) (D : va_G) {ad : Nat → Nat} (cA : Nat → ClassId) (had : adok ad) (M : Mem) (b L : Nat) (xs : Nat → Int32) (hL : L < 2147483648) (k : Int) (hk : 0 ≤ k ∧ k ≤ 1000) : ∀ sz : Nat, Met l yL_cell wsL_cell { frames := 0, cells := 0, slots := 0, locals := 0 } (va_Pc [.ref b, .int (zI k)] (PcS D ad cA M b L xs sz)) (QcI D ad cA (fun z M1 => (-2147483648 ≤ z ∧ z ≤ 2147483647) ∧ M1 = M) sz) 0 0 (Afr ad sz) := by
  intro sz
  refine Met.ofW (cc := cL_cell) (maxL := 2) (ret := some .int) (by decide) rfl ?_
  intro p e s m args below meth c s₁ B hml hv
  obtain ⟨rfl, ⟨rfl, hP, hK, hN⟩, hX, hbl, hbA⟩ := hv
  have X : Cx p s m ([.ref b, .int (zI k)] : List Value).toArray c cL_cell yL_cell.cls 2 wsL_cell D ad cA (Afr ad s.heap.size) := ⟨⟨B.exec, B.bytes, hml, findClass_of_methodNamed B.named, atoms_spec (ws := wsL_cell) B.pre⟩, hK, hN, had, Afr_self.1, Afr_self.2⟩
  have hm : Mt meth (some .int) := ⟨B.returns, B.notSynchronized⟩
  have h : VV p l e { frames := 0, cells := 0, slots := 0, locals := 0 } s m ([.ref b, .int (zI k)] : List Value).toArray below meth c 2 D ad cA (Afr ad s.heap.size) 0 0 (QI below ([.ref b, .int (zI k)] : List Value).toArray s D ad cA (fun z M1 => (-2147483648 ≤ z ∧ z ≤ 2147483647) ∧ M1 = M)) M 0 [(0, .ref b), (1, .int (zI k))] [] := by
    have fin : ∀ (z : Int), VV p l e { frames := 0, cells := 0, slots := 0, locals := 0 } s m ([.ref b, .int (zI k)] : List Value).toArray below meth c 2 D ad cA (Afr ad s.heap.size) 0 0 (QI below ([.ref b, .int (zI k)] : List Value).toArray s D ad cA (fun z M1 => (-2147483648 ≤ z ∧ z ≤ 2147483647) ∧ M1 = M)) M 21 [(0, .ref b), (1, .int (zI k))] [.int (zI z)] := fun z => by
      rw [← zI_of (zI z)]
      exact vv_iret X hm ⟨zI_inT _, rfl⟩ dL_cell_21
    refine vv_iload_n X 1 rfl rfl dL_cell_0 ?_
    refine vv_aload_n X 0 rfl rfl dL_cell_1 ?_
    refine vv_slen X hX hbl hbA dL_cell_2 ?_
    refine vv_icmp_ge (tgt := 12) X (by omega) (by omega) dL_cell_3 (by decide) (fun c_3 => ?_) (fun c_3 => ?_)
    · refine vv_ldc (n := 777886591) (v := 777886591) X (by decide +kernel) (by decide) dL_cell_12 ?_
      refine vv_iload_n X 1 rfl rfl dL_cell_14 ?_
      refine vv_iconst (n := 1) X dL_cell_15 ?_
      refine vv_iadd X dL_cell_16 ?_
      refine vv_imul X dL_cell_17 ?_
      refine vv_ldc (n := 1277135459) (v := 1277135459) X (by decide +kernel) (by decide) dL_cell_18 ?_
      refine vv_iadd X dL_cell_20 ?_
      exact fin _
    · obtain ⟨z, hz⟩ : ∃ z : Int, xs k.toNat = zI z := ⟨(xs k.toNat).toInt, (zI_of _).symm⟩
      refine vv_aload_n X 0 rfl rfl dL_cell_6 ?_
      refine vv_iload_n X 1 rfl rfl dL_cell_7 ?_
      refine vv_sld X hX hbl hbA (by omega) hL hz dL_cell_8 ?_
      refine vv_goto (tgt := 21) X (by decide) dL_cell_9 ?_
      exact fin z
  rw [lg_entry_eq]
  exact h s.heap [] _ hP va_S.rf (lv_entry _ (Nat.le_of_ble_eq_true rfl))
theorem vv_callC (X : Cx p s m args c cc own nL Ts D ad cA A) (had : adok ad) (hX : va_X b L xs s s.heap) (hbl : b < s.heap.size) (hbA : ¬ A b) (hL : L < 2147483648) {k : Int} (hk : 0 ≤ k ∧ k ≤ 1000) {index : Nat} (hT : GoodIn Ts (va_wsS own index yL_cell wsL_cell)) (hR : 1 ≤ R.frames ∧ 21 ≤ R.locals) (hst : (st.map fun v => v.category).sum ≤ 8) (hcs : cells ≤ R.cells ∧ slots ≤ R.slots) (hdg : decode cc pc = .ok (.invokestatic index, 3)) (kk : ∀ z : Int, (-2147483648 ≤ z ∧ z ≤ 2147483647) → VV p l e R s m args below meth c nL D ad cA A cells slots Q M (pc + 3) lv (.int (zI z) :: st)) : VV p l e R s m args below meth c nL D ad cA A cells slots Q M pc lv (.int (zI k) :: .ref b :: st) := fun H locs ls hP hS hl =>
  va_calli (va_runS (As := [.ref b, .int (zI k)]) (rest := st) X.1 (c_L_cell l D cA had M b L xs hL k hk H.size) (va_cwS 2 X.1.2.2.2.2 hT rfl rfl rfl (by decide +kernel) hR) ⟨PcS_blind, fun U hU hW => ⟨rfl, ⟨by rw [hU], by rw [hU]; exact hP, va_K.moved hW.alike X.2.1, vNs_warm hW X.2.2.1⟩, by rw [hU]; exact va_X.moved hW.alike (va_X.kept hX (hS.2.1 b hbl hbA)), Nat.lt_of_lt_of_le hbl hS.1, fun q => by
    rcases q with ⟨i, hi, q⟩ | q
    · exact hbA (by rw [q]; exact X.2.2.2.2.1 i hi)
    · exact absurd (Nat.lt_of_lt_of_le hbl hS.1) (Nat.not_lt.mpr q)⟩⟩ rfl rfl hl.1 rfl (lv_room hst) hdg ⟨hcs.1, hcs.2⟩) hS (fun q _ h => vv_free X hS q h) (vv_free X hS) (fun r u t H1 locs1 ht hvm hw hB hz hk hS1 => by
    obtain ⟨z, rfl, hr, rfl⟩ := hw
    rw [ht] at hB
    exact kk z hr H1 locs1 ls hB hS1 hl)
end LC
