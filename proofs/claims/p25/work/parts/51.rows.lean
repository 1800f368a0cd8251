/-! ===== making: a world that is a list ===== -/
def vNi (U : State) : Prop := va_Nw (.methodLinkNest RX7 11 yX5_init RX8) U ∧ va_Nw (.methodLinkNest RX7 20 yX6_init RX8) U ∧ va_Nw (.methodLinkNest RX8 33 yX4_init RX8) U ∧ va_Nw (.methodLinkNest RX8 40 yX3_init RX8) U ∧ va_Nw (.methodLinkNest RX8 47 yX0_init RX8) U ∧ va_Nw (.methodLinkNest RX8 54 yX1_init RX8) U ∧ va_AO RX7 U
theorem vNi_warm {s U : State} (hW : s.WarmedH U.vm) (h : vNi s) : vNi U := ⟨h.1.warmM hW, h.2.1.warmM hW, h.2.2.1.warmM hW, h.2.2.2.1.warmM hW, h.2.2.2.2.1.warmM hW, h.2.2.2.2.2.1.warmM hW, h.2.2.2.2.2.2.moved hW.alike⟩
theorem vNi_same {s U : State} (hW : s.vm = U.vm) (h : vNi s) : vNi U := ⟨h.1.same rfl hW, h.2.1.same rfl hW, h.2.2.1.same rfl hW, h.2.2.2.1.same rfl hW, h.2.2.2.2.1.same rfl hW, h.2.2.2.2.2.1.same rfl hW, h.2.2.2.2.2.2.moved (hW ▸ Vm.Alike.refl _)⟩
theorem P_pick {D : va_G} {cl : List vw_C} {ws ws' : va_W} {H : Heap} (is : List Nat) (hs : is.map (fun i => ws[i]?) = ws'.map some) (h : va_P D cl ws H) : va_P D cl ws' H := fun k q hq => by
  have h1 : (is.map (fun i => ws[i]?))[k]? = some (some q) := by rw [hs, List.getElem?_map, hq]; rfl
  rw [List.getElem?_map] at h1
  cases hi : is[k]? with
  | none => rw [hi] at h1; cases h1
  | some i => rw [hi] at h1; exact h i q (Option.some.inj h1)
theorem P_l {D : va_G} {cl : List vw_C} {a b : va_W} {H : Heap} (h : va_P D cl (a ++ b) H) : va_P D cl a H := fun k q hq => h k q (by
  rw [List.getElem?_append_left (List.getElem?_eq_some_iff.mp hq).1]
  exact hq)
theorem P_r {D : va_G} {cl : List vw_C} {a b : va_W} {H : Heap} (h : va_P D cl (a ++ b) H) : va_P D cl b H := fun k q hq => h (a.length + k) q (by
  rw [List.getElem?_append_right (by omega), show a.length + k - a.length = k by omega]
  exact hq)
theorem D_l {A : Nat → Prop} {a b : va_W} (h : va_D A (a ++ b)) : va_D A a := by
  have e : ∀ (k : Nat) (q : Nat × va_E), a[k]? = some q → (a ++ b)[k]? = some q := fun k q hq => by
    rw [List.getElem?_append_left (List.getElem?_eq_some_iff.mp hq).1]
    exact hq
  exact ⟨fun i j x y hi hj hxy => h.1 i j x y (e i x hi) (e j y hj) hxy, fun k q hk => h.2 k q (e k q hk)⟩
theorem D_r {A : Nat → Prop} {a b : va_W} (h : va_D A (a ++ b)) : va_D A b := by
  have e : ∀ (k : Nat) (q : Nat × va_E), b[k]? = some q → (a ++ b)[a.length + k]? = some q := fun k q hq => by
    rw [List.getElem?_append_right (by omega), show a.length + k - a.length = k by omega]
    exact hq
  exact ⟨fun i j x y hi hj hxy => by have := h.1 _ _ x y (e i x hi) (e j y hj) hxy; omega, fun k q hk => h.2 _ q (e k q hk)⟩
theorem D_x {A : Nat → Prop} {a b : va_W} (h : va_D A (a ++ b)) (i j : Nat) (x y : Nat × va_E) (hi : a[i]? = some x) (hj : b[j]? = some y) : x.1 ≠ y.1 := fun hxy => by
  have hl := (List.getElem?_eq_some_iff.mp hi).1
  have e1 : (a ++ b)[i]? = some x := by rw [List.getElem?_append_left hl]; exact hi
  have e2 : (a ++ b)[a.length + j]? = some y := by
    rw [List.getElem?_append_right (by omega), show a.length + j - a.length = j by omega]
    exact hj
  have := h.1 _ _ x y e1 e2 hxy
  omega
/-- behind a call: the rest, and what came of the last cells -/
theorem jn_end {A0 : Nat → Prop} {D : va_G} {cl : List vw_C} {wr wc w1 : va_W} {H H1 : Heap} (hP : va_P D cl (wr ++ wc) H) (hD : va_D A0 (wr ++ wc)) (hk : ∀ q : Nat, q < H.size → ¬ va_A wc H.size q → H1[q]? = H[q]?) (hF : ∀ q, va_A wc H.size q → A0 q) (hP1 : va_P D cl w1 H1) (hD1 : va_D (va_A wc H.size) w1) : va_P D cl (wr ++ w1) H1 ∧ va_D A0 (wr ++ w1) := by
  have hPr := P_l hP
  have apart : ∀ (k : Nat) (q : Nat × va_E), wr[k]? = some q → q.1 < H.size ∧ ¬ va_A wc H.size q.1 := by
    intro k q hq
    have hl := (hPr k q hq).lt
    refine ⟨hl, fun h => ?_⟩
    rcases h with ⟨k2, e, h⟩ | h
    · exact D_x hD k k2 q (q.1, e) hq h rfl
    · omega
  refine ⟨va_P.app (fun k q hq => ?_) hP1, va_D.app (D_l hD) (hD1.weaken (fun k q _ h => hF q.1 h)) (fun i j x y hx hy hxy => ?_)⟩
  · obtain ⟨g1, g2⟩ := apart k q hq
    exact (hPr k q hq).kept (hk q.1 g1 g2)
  · exact (apart i x hx).2 (by rw [hxy]; exact hD1.2 j y hy)
theorem free_r {A0 : Nat → Prop} {wr wc : va_W} {H0 H : Heap} {locs : List Loc} (hD : va_D A0 (wr ++ wc)) (hS : va_S A0 H0 H locs) (hA : ∀ q, H0.size ≤ q → A0 q) : ∀ q, va_A wc H.size q → A0 q := fun q h => by
  rcases h with ⟨k, e, h⟩ | h
  · exact (D_r hD).2 k (q, e) h
  · exact hA q (Nat.le_trans hS.1 h)
def PcN (D : va_G) (cA : Nat → ClassId) (ws : va_W) (sz : Nat) (U : State) : Prop := U.heap.size = sz ∧ va_P D vwCl ws U.heap ∧ va_K D vwCl (tyL cA) U ∧ vNi U ∧ vNs U ∧ va_D (fun _ => True) ws
theorem PcN_blind {As : List Value} {D : va_G} {cA : Nat → ClassId} {ws : va_W} {sz : Nat} : FrameBlind (va_Pc As (PcN D cA ws sz)) := fun a U g mk q => by
  obtain ⟨q0, q1, qP, qK, qI, qN, qD⟩ := q
  exact ⟨q0, q1, qP, va_K.moved (u := U) (U := U.calling g mk a) (Vm.Alike.refl U.vm) qK, vNi_same rfl qI, vNs_same rfl qN, qD⟩
abbrev QcN (D : va_G) (ws : va_W) (post : (Nat → Nat) → Prop) (wo : (Nat → Nat) → va_W) (sz : Nat) : Array Value → State → Outcome → State → Prop := va_Qv (fun (u : Nat → Nat) => post u) (fun u t => va_P D vwCl (wo u) t.heap ∧ va_D (va_A ws sz) (wo u)) (va_A ws sz)
/-- a method that makes: its start ws, its end wo at the addresses u -/
def CtN (l : Launch) (y : MethodName) (w : List Cond) (fr mc ms lo : Nat) (D : va_G) (cA : Nat → ClassId) (As : List Value) (ws : va_W) (post : (Nat → Nat) → Prop) (wo : (Nat → Nat) → va_W) : Prop :=
  ∀ sz : Nat, Met l y w { frames := fr, cells := mc, slots := ms, locals := lo } (va_Pc As (PcN D cA ws sz)) (QcN D ws post wo sz) mc ms (va_A ws sz)
def Cn (p : Program) (s : State) (m : MethodId) (args : Array Value) (c : Code) (cc : ByteArray) (own : String) (nL : Nat) (Ts : List Cond) (D : va_G) (cA : Nat → ClassId) (A : Nat → Prop) : Prop :=
  CallFix p m c cc nL s args Ts own ∧ va_K D vwCl (tyL cA) s ∧ vNi s ∧ vNs s ∧ (∀ q, s.heap.size ≤ q → A q)
def LL (p : Program) (l : Launch) (e : Env) (R : Room) (s : State) (m : MethodId) (args : Array Value) (below : List Frame) (meth : Method) (c : Code) (nL : Nat) (D : va_G) (A : Nat → Prop) (cells slots : Nat) (Q : State → Prop) (ws : va_W) (pc : Nat) (lv : List (Nat × Value)) (st : List Value) : Prop :=
  ∀ (H : Heap) (locs : List Loc) (ls : Array Slot), va_P D vwCl ws H → va_D A ws → va_S A s.heap H locs → lv_has ls nL lv → W p l e R s m args below meth c H locs cells slots Q (F0 m pc ls st)
def QN (below : List Frame) (args : Array Value) (s : State) (D : va_G) (ws : va_W) (post : (Nat → Nat) → Prop) (wo : (Nat → Nat) → va_W) (mc ms : Nat) : State → Prop := MQ below (QcN D ws post wo s.heap.size) args s mc ms (va_A ws s.heap.size)
theorem CtN.of {l : Launch} {y : MethodName} {w : List Cond} {fr mc ms lo : Nat} {D : va_G} {cA : Nat → ClassId} {As : List Value} {ws : va_W} {post : (Nat → Nat) → Prop} {wo : (Nat → Nat) → va_W} {cc : ByteArray} {maxL : Nat} {w' : List Cond} (hy : plainName y.cls = true) (hw : w = Cond.code y cc maxL none :: w') (hlen : (lg_sl As).length ≤ maxL)
    (body : ∀ (p : Program) (e : Env) (s : State) (m : MethodId) (args : Array Value) (below : List Frame) (meth : Method) (c : Code), Cn p s m args c cc y.cls maxL w D cA (va_A ws s.heap.size) → Mt meth none → meth.name = y.name → LL p l e { frames := fr, cells := mc, slots := ms, locals := lo } s m args below meth c maxL D (va_A ws s.heap.size) 0 0 (QN below args s D ws post wo mc ms) ws 0 (lv_args 0 As) []) : CtN l y w fr mc ms lo D cA As ws post wo := by
  intro sz
  refine Met.ofW (cc := cc) (maxL := maxL) (ret := none) hy hw ?_
  intro p e s m args below meth c s₁ B hml hv
  obtain ⟨rfl, rfl, hP, hK, hI, hN, hD⟩ := hv
  have h := body p e s m As.toArray below meth c ⟨⟨B.exec, B.bytes, hml, findClass_of_methodNamed B.named, atoms_spec (ws := w) B.pre⟩, hK, hI, hN, fun q h => Or.inr h⟩ ⟨B.returns, B.notSynchronized⟩ (name_of_methodNamed B.named B.method).1
  rw [lg_entry_eq]
  exact h s.heap [] _ hP hD.self va_S.rf (lv_entry As hlen)
section LR
variable {p : Program} {l : Launch} {e : Env} {R : Room} {s : State} {m : MethodId} {args : Array Value} {below : List Frame} {meth : Method} {c : Code} {Q : State → Prop} {cells slots : Nat}
variable {cc : ByteArray} {own : String} {nL : Nat} {Ts : List Cond} {D : va_G} {cA : Nat → ClassId} {A : Nat → Prop} {ws ws' : va_W} {pc : Nat} {lv lv' : List (Nat × Value)} {st : List Value}
theorem ll_iconst (X : Cn p s m args c cc own nL Ts D cA A) {n : Int} (hdg : decode cc pc = .ok (.iconst n, 1)) (k : LL p l e R s m args below meth c nL D A cells slots Q ws (pc + 1) lv (.int (zI n) :: st)) : LL p l e R s m args below meth c nL D A cells slots Q ws pc lv st := fun H locs ls hP hD hS hl => lv_iconst X.1.1 X.1.2.1 hdg rfl (k H locs ls hP hD hS hl)
theorem ll_bipush (X : Cn p s m args c cc own nL Ts D cA A) {n : Int} (hv : (Int8.ofInt n).toInt32 = zI n) (hdg : decode cc pc = .ok (.bipush n, 2)) (k : LL p l e R s m args below meth c nL D A cells slots Q ws (pc + 2) lv (.int (zI n) :: st)) : LL p l e R s m args below meth c nL D A cells slots Q ws pc lv st := fun H locs ls hP hD hS hl => lv_bipush X.1.1 X.1.2.1 hdg hv (k H locs ls hP hD hS hl)
theorem ll_sipush (X : Cn p s m args c cc own nL Ts D cA A) {n : Int} (hv : (Int16.ofInt n).toInt32 = zI n) (hdg : decode cc pc = .ok (.sipush n, 3)) (k : LL p l e R s m args below meth c nL D A cells slots Q ws (pc + 3) lv (.int (zI n) :: st)) : LL p l e R s m args below meth c nL D A cells slots Q ws pc lv st := fun H locs ls hP hD hS hl => lv_sipush X.1.1 X.1.2.1 hdg hv (k H locs ls hP hD hS hl)
theorem ll_iload_n (X : Cn p s m args c cc own nL Ts D cA A) {q : Fin 4} (j : Nat) {i : Nat} {x : Int32} (hi : (q : Nat) = i) (hj : lv[j]? = some (i, .int x)) (hdg : decode cc pc = .ok (.iload_n q, 1)) (k : LL p l e R s m args below meth c nL D A cells slots Q ws (pc + 1) lv (.int x :: st)) : LL p l e R s m args below meth c nL D A cells slots Q ws pc lv st := fun H locs ls hP hD hS hl => lv_iload_n X.1.1 X.1.2.1 hdg hi (lv_at hl j hj) (k H locs ls hP hD hS hl)
theorem ll_iload (X : Cn p s m args c cc own nL Ts D cA A) (j : Nat) {i : Nat} {x : Int32} (hj : lv[j]? = some (i, .int x)) (hdg : decode cc pc = .ok (.iload i, 2)) (k : LL p l e R s m args below meth c nL D A cells slots Q ws (pc + 2) lv (.int x :: st)) : LL p l e R s m args below meth c nL D A cells slots Q ws pc lv st := fun H locs ls hP hD hS hl => lv_iload X.1.1 X.1.2.1 hdg (lv_at hl j hj) (k H locs ls hP hD hS hl)
theorem ll_istore_n (X : Cn p s m args c cc own nL Ts D cA A) {q : Fin 4} {i : Nat} {x : Int32} (hi : (q : Nat) = i) (hn : i < nL) (hv : (i, Value.int x) :: lv.filter (fun q => !(q.1 == i) && !(q.1 + 1 == i && q.2.category == 2)) = lv') (hdg : decode cc pc = .ok (.istore_n q, 1)) (k : LL p l e R s m args below meth c nL D A cells slots Q ws (pc + 1) lv' st) : LL p l e R s m args below meth c nL D A cells slots Q ws pc lv (.int x :: st) := fun H locs ls hP hD hS hl => lv_istore_n X.1.1 X.1.2.1 hdg hi hl hn hv (fun ls hl => (k H locs ls hP hD hS hl))
theorem ll_istore (X : Cn p s m args c cc own nL Ts D cA A) {i : Nat} {x : Int32} (hn : i < nL) (hv : (i, Value.int x) :: lv.filter (fun q => !(q.1 == i) && !(q.1 + 1 == i && q.2.category == 2)) = lv') (hdg : decode cc pc = .ok (.istore i, 2)) (k : LL p l e R s m args below meth c nL D A cells slots Q ws (pc + 2) lv' st) : LL p l e R s m args below meth c nL D A cells slots Q ws pc lv (.int x :: st) := fun H locs ls hP hD hS hl => lv_istore X.1.1 X.1.2.1 hdg hl hn hv (fun ls hl => (k H locs ls hP hD hS hl))
theorem ll_aload_n (X : Cn p s m args c cc own nL Ts D cA A) {q : Fin 4} (j : Nat) {i : Nat} {x : Nat} (hi : (q : Nat) = i) (hj : lv[j]? = some (i, .ref x)) (hdg : decode cc pc = .ok (.aload_n q, 1)) (k : LL p l e R s m args below meth c nL D A cells slots Q ws (pc + 1) lv (.ref x :: st)) : LL p l e R s m args below meth c nL D A cells slots Q ws pc lv st := fun H locs ls hP hD hS hl => lv_aload_n X.1.1 X.1.2.1 hdg hi (lv_at hl j hj) (k H locs ls hP hD hS hl)
theorem ll_iinc (X : Cn p s m args c cc own nL Ts D cA A) {i : Nat} {n a : Int} (j : Nat) (hj : lv[j]? = some (i, .int (zI a))) (hn : i < nL) (hv : (i, Value.int (zI (a + n))) :: lv.filter (fun q => !(q.1 == i) && !(q.1 + 1 == i && q.2.category == 2)) = lv') (hdg : decode cc pc = .ok (.iinc i n, 3)) (k : LL p l e R s m args below meth c nL D A cells slots Q ws (pc + 3) lv' st) : LL p l e R s m args below meth c nL D A cells slots Q ws pc lv st := fun H locs ls hP hD hS hl => lv_iinc (v := zI (a + n)) X.1.1 X.1.2.1 hdg hl hj (zI_add a n) hn hv (fun ls hl => (k H locs ls hP hD hS hl))
theorem ll_iadd (X : Cn p s m args c cc own nL Ts D cA A) {a b : Int} (hdg : decode cc pc = .ok (.iadd, 1)) (k : LL p l e R s m args below meth c nL D A cells slots Q ws (pc + 1) lv (.int (zI (a + b)) :: st)) : LL p l e R s m args below meth c nL D A cells slots Q ws pc lv (.int (zI b) :: .int (zI a) :: st) := fun H locs ls hP hD hS hl => lv_iadd X.1.1 X.1.2.1 hdg (by rw [zI_add]; exact (k H locs ls hP hD hS hl))
theorem ll_dup (X : Cn p s m args c cc own nL Ts D cA A) {v : Value} (hc : v.category = 1) (hdg : decode cc pc = .ok (.dup, 1)) (k : LL p l e R s m args below meth c nL D A cells slots Q ws (pc + 1) lv (v :: v :: st)) : LL p l e R s m args below meth c nL D A cells slots Q ws pc lv (v :: st) := fun H locs ls hP hD hS hl => lv_dup X.1.1 X.1.2.1 hdg hc (k H locs ls hP hD hS hl)
theorem ll_pop (X : Cn p s m args c cc own nL Ts D cA A) {v : Value} (hc : v.category = 1) (hdg : decode cc pc = .ok (.pop, 1)) (k : LL p l e R s m args below meth c nL D A cells slots Q ws (pc + 1) lv st) : LL p l e R s m args below meth c nL D A cells slots Q ws pc lv (v :: st) := fun H locs ls hP hD hS hl => lv_pop X.1.1 X.1.2.1 hdg hc (k H locs ls hP hD hS hl)
theorem ll_goto (X : Cn p s m args c cc own nL Ts D cA A) {off : Int} {tgt : Nat} (ht : (pc : Int) + off = (tgt : Int)) (hdg : decode cc pc = .ok (.goto off, 3)) (k : LL p l e R s m args below meth c nL D A cells slots Q ws tgt lv st) : LL p l e R s m args below meth c nL D A cells slots Q ws pc lv st := fun H locs ls hP hD hS hl => lv_goto X.1.1 X.1.2.1 hdg ht (k H locs ls hP hD hS hl)
theorem ll_icmp_ge (X : Cn p s m args c cc own nL Ts D cA A) {a b : Int} {off : Int} {tgt : Nat} (ha : -2147483648 ≤ a ∧ a ≤ 2147483647) (hb : -2147483648 ≤ b ∧ b ≤ 2147483647) (hdg : decode cc pc = .ok (.if_icmp .ge off, 3)) (ht : (pc : Int) + off = (tgt : Int)) (kt : b ≤ a → LL p l e R s m args below meth c nL D A cells slots Q ws tgt lv st) (kf : a < b → LL p l e R s m args below meth c nL D A cells slots Q ws (pc + 3) lv st) : LL p l e R s m args below meth c nL D A cells slots Q ws pc lv (.int (zI b) :: .int (zI a) :: st) := fun H locs ls hP hD hS hl => lv_icmp_ge X.1.1 X.1.2.1 hdg ht (fun q => kt ((zI_le hb ha).mp q) H locs ls hP hD hS hl) (fun q => kf (Int.not_le.mp (fun w => q ((zI_le hb ha).mpr w))) H locs ls hP hD hS hl)
theorem ll_obj (X : Cn p s m args c cc own nL Ts D cA A) {idx a : Nat} (hlink : Cond.methodLink own idx objectInit ∈ Ts) (hinst : Cond.instanceMethod objectInit ∈ Ts) (hcode : Cond.code objectInit ⟨#[0xb1]⟩ 1 none ∈ Ts) (hR : 1 ≤ R.frames ∧ 2 * 0 + (st.map fun v => v.category).sum + 12 ≤ R.locals) (hdg : decode cc pc = .ok (.invokespecial idx, 3)) (k : LL p l e R s m args below meth c nL D A cells slots Q ws (pc + 3) lv st) : LL p l e R s m args below meth c nL D A cells slots Q ws pc lv (.ref a :: st) := fun H locs ls hP hD hS hl =>
  W.objInit X.1.1 X.1.2.1 X.1.2.2.2.1 (X.1.2.2.2.2 _ hlink) (X.1.2.2.2.2 _ hinst) (X.1.2.2.2.2 _ hcode) rfl (by rw [X.1.2.2.1]; exact hl.1) rfl hdg hR.1 hR.2 (W.eq (g2 := F0 m (pc + 3) ls st) rfl (k H locs ls hP hD hS hl))
theorem K_cls {c' : ClassId} {ty : FieldType} {t : Nat} (X : va_K D vwCl (tyL cA) s) (hK : va_K D vwCl (tyL cA ++ [(c', ty)]) s) (ht : (tyL cA)[t]? = some (cA t, ty)) (hra : ∀ c0 : ClassId, va_RA s c0 ty → s.vm.findClass ("[" ++ ty.toString) = some c0) : c' = cA t := by
  have h1 := hra _ (X.2 t _ ht).2
  have h2 := hra _ (hK.2 4 (c', ty) rfl).2
  exact Option.some.inj (h2.symm.trans h1)
theorem ll_newa (X : Cn p s m args c cc own nL Ts D cA A) {atype : ArrayType} {ty : FieldType} {t N : Nat} {n : Int} (harr : Cond.arrayClass (newarray.typeOf atype) ∈ Ts) (hty : newarray.typeOf atype = ty) (ht : (tyL cA)[t]? = some (cA t, ty)) (hra : ∀ c0 : ClassId, va_RA s c0 ty → s.vm.findClass ("[" ++ ty.toString) = some c0) (hdf : defaultValue ty = .int (zI 0)) (hn : 0 ≤ n ∧ n ≤ 1000) (hN : n.toNat = N) (hbytes : N * componentBytes ty ≤ 536870912) (hcs : cells + 1 ≤ R.cells ∧ slots + N ≤ R.slots) (hdg : decode cc pc = .ok (.newarray atype, 2)) (k : ∀ q : Nat, LL p l e R s m args below meth c nL D A (cells + 1) (slots + N) Q (ws ++ [(q, .inl (cA t, N, .inl (fun _ => zI 0)))]) (pc + 2) lv (.ref q :: st)) : LL p l e R s m args below meth c nL D A cells slots Q ws pc lv (.int (zI n) :: st) := fun H locs ls hP hD hS hl =>
  va_newa (a0 := (N, .inl (fun _ => zI 0))) X.1.1 X.1.2.1 (X.1.2.2.2.2 _ harr) hty X.2.1 hP hD hS X.2.2.2.2 (fun c0 => by rw [hdf]; rfl) (by rw [zI_0, zI_lt (by omega) (by omega)]; omega) (by rw [zI_cl (by omega)]; exact hN) hbytes hcs.1 hcs.2 hdg (fun q c' H1 hK hP1 hD1 hS1 => by
    have e := K_cls X.2.1 hK ht hra
    subst e
    exact k q H1 locs ls hP1 hD1 hS1 hl)
theorem ll_newq (X : Cn p s m args c cc own nL Ts D cA A) {N index : Nat} {n : Int} (hclink : Cond.classLink own index RX7 ∈ Ts) (hn : 0 ≤ n ∧ n ≤ 1000) (hN : n.toNat = N) (hcs : cells + 1 ≤ R.cells ∧ slots + N ≤ R.slots) (hdg : decode cc pc = .ok (.anewarray index, 3)) (k : ∀ q : Nat, LL p l e R s m args below meth c nL D A (cells + 1) (slots + N) Q (ws ++ [(q, .inl (cA 3, N, .inr (.inr (.inr (.inr (fun _ => none))))))]) (pc + 3) lv (.ref q :: st)) : LL p l e R s m args below meth c nL D A cells slots Q ws pc lv (.int (zI n) :: st) := fun H locs ls hP hD hS hl =>
  va_newq X.1.1 X.1.2.1 X.1.2.2.2.1 (X.1.2.2.2.2 _ hclink) X.2.2.1.2.2.2.2.2.2 X.2.1 hP hD hS X.2.2.2.2 (by rw [zI_0, zI_lt (by omega) (by omega)]; omega) (by rw [zI_cl (by omega)]; exact hN) (by omega) hcs.1 hcs.2 hdg (fun q c' H1 hK hP1 hD1 hS1 => by
    have e := K_cls (t := 3) X.2.1 hK rfl (fun c0 h => by obtain ⟨_, _, _, _, _, h4⟩ := h; exact h4)
    subst e
    exact k q H1 locs ls hP1 hD1 hS1 hl)
theorem ll_new (X : Cn p s m args c cc own nL Ts D cA A) {C : String} {T : u_T} {N ci index : Nat} {fs : List Value} (hin : ∀ w ∈ u_ws C T N, w ∈ Ts) (ty : Nat → FieldType) (hty : ∀ k, k < N → parseFieldDescriptor (T k).2.2.1 = some (ty k)) (hcl : Cond.classLink own index C ∈ Ts) (hinst : Cond.instantiable C N ∈ Ts) (hini : Cond.initialized C ∈ Ts) (hc : vwCl[ci]? = some (C, T, N)) (hfs : ∀ j, j < N → defaultValue (ty j) = vp_V fs j) (hcs : cells + 1 ≤ R.cells ∧ slots + N ≤ R.slots) (hdg : decode cc pc = .ok (.new index, 3)) (k : ∀ q : Nat, LL p l e R s m args below meth c nL D A (cells + 1) (slots + N) Q (ws ++ [(q, .inr (ci, fs))]) (pc + 3) lv (.ref q :: st)) : LL p l e R s m args below meth c nL D A cells slots Q ws pc lv st := fun H locs ls hP hD hS hl =>
  va_new X.1.1 X.1.2.1 X.1.2.2.2.2 hin ty hty X.1.2.2.2.1 (X.1.2.2.2.2 _ hcl) (X.1.2.2.2.2 _ hinst) (X.1.2.2.2.2 _ hini) X.2.1 hP hD hS X.2.2.2.2 hc hfs hcs.1 hcs.2 hdg (fun q H1 hP1 hD1 hS1 => k q H1 locs ls hP1 hD1 hS1 hl)
theorem ll_get (X : Cn p s m args c cc own nL Ts D cA A) {C ref : String} {T : u_T} {N ci index a : Nat} {fs : List Value} {v : Value} (hin : ∀ w ∈ u_ws C T N, w ∈ Ts) (q0 : Nat) (he : ws[q0]? = some (a, .inr (ci, fs))) (hc : vwCl[ci]? = some (C, T, N)) (f : Nat) (hf : f < N) (hlink : Cond.fieldLink own index ref (T f).2.1 (T f).2.2.1 ∈ Ts) (href : ref = (T f).1) (hv : fs[f]? = some v) (hdg : decode cc pc = .ok (.getfield index, 3)) (k : LL p l e R s m args below meth c nL D A cells slots Q ws (pc + 3) lv (v :: st)) : LL p l e R s m args below meth c nL D A cells slots Q ws pc lv (.ref a :: st) := fun H locs ls hP hD hS hl =>
  va_get X.1.1 X.1.2.1 X.1.2.2.2.2 hin X.1.2.2.2.1 X.2.1 hP q0 he hc f hf (X.1.2.2.2.2 _ hlink) (fun x h => by rw [href]; exact h) hv hdg (k H locs ls hP hD hS hl)
theorem ll_put (X : Cn p s m args c cc own nL Ts D cA A) {C ref : String} {T : u_T} {N ci index a : Nat} {fs : List Value} {v : Value} {ty : FieldType} (hin : ∀ w ∈ u_ws C T N, w ∈ Ts) (ty0 : Nat → FieldType) (hty : ∀ k, k < N → parseFieldDescriptor (T k).2.2.1 = some (ty0 k)) (hnm : ∀ a, a < N → ∀ b, b < N → a ≠ b → (T a).2.1 ≠ (T b).2.1) (q0 : Nat) (he : ws[q0]? = some (a, .inr (ci, fs))) (hc : vwCl[ci]? = some (C, T, N)) (f : Nat) (hf : f < N) (hlink : Cond.fieldLink own index ref (T f).2.1 (T f).2.2.1 ∈ Ts) (href : ref = (T f).1) (hfin : (T f).2.2.2 = false) (hd : parseFieldDescriptor (T f).2.2.1 = some ty) (hn : narrow ty v = v) (hfit : fits ty v = true) (hl0 : f < fs.length) (hw : ws.set q0 (a, .inr (ci, fs.set f v)) = ws') (hdg : decode cc pc = .ok (.putfield index, 3)) (k : LL p l e R s m args below meth c nL D A cells slots Q ws' (pc + 3) lv st) : LL p l e R s m args below meth c nL D A cells slots Q ws pc lv (v :: .ref a :: st) := fun H locs ls hP hD hS hl => by
  subst hw
  exact va_put X.1.1 X.1.2.1 X.1.2.2.2.2 hin ty0 hty hnm X.1.2.2.2.1 X.2.1 hP hD hS q0 he hc f hf (X.1.2.2.2.2 _ hlink) (fun x h => by rw [href]; exact h) hfin hd hn hfit hl0 hdg (fun H1 locs1 hP1 hD1 hS1 => k H1 locs1 ls hP1 hD1 hS1 hl)
theorem ll_putF (X : Cn p s m args c cc own nL Ts D cA A) (hin2 : meth.name = "<init>") {C ref : String} {T : u_T} {N ci index a : Nat} {fs : List Value} {v : Value} {ty : FieldType} (hin : ∀ w ∈ u_ws C T N, w ∈ Ts) (ty0 : Nat → FieldType) (hty : ∀ k, k < N → parseFieldDescriptor (T k).2.2.1 = some (ty0 k)) (hnm : ∀ a, a < N → ∀ b, b < N → a ≠ b → (T a).2.1 ≠ (T b).2.1) (q0 : Nat) (he : ws[q0]? = some (a, .inr (ci, fs))) (hc : vwCl[ci]? = some (C, T, N)) (f : Nat) (hf : f < N) (hlink : Cond.fieldLink own index ref (T f).2.1 (T f).2.2.1 ∈ Ts) (href : ref = (T f).1) (hfin : (T f).2.2.2 = true) (hdecl : (T f).1 = own) (hd : parseFieldDescriptor (T f).2.2.1 = some ty) (hn : narrow ty v = v) (hfit : fits ty v = true) (hl0 : f < fs.length) (hw : ws.set q0 (a, .inr (ci, fs.set f v)) = ws') (hdg : decode cc pc = .ok (.putfield index, 3)) (k : LL p l e R s m args below meth c nL D A cells slots Q ws' (pc + 3) lv st) : LL p l e R s m args below meth c nL D A cells slots Q ws pc lv (v :: .ref a :: st) := fun H locs ls hP hD hS hl => by
  subst hw
  exact va_putF X.1.1 X.1.2.1 X.1.2.2.2.2 hin ty0 hty hnm X.1.2.2.2.1 X.2.1 hP hD hS q0 he hc f hf (X.1.2.2.2.2 _ hlink) (fun x h => by rw [href]; exact h) hfin hin2 hdecl hd hn hfit hl0 hdg (fun H1 locs1 hP1 hD1 hS1 => k H1 locs1 ls hP1 hD1 hS1 hl)
theorem ll_iast (X : Cn p s m args c cc own nL Ts D cA A) {a n : Nat} {i x : Int} {F : Nat → Int} (q0 : Nat) (he : ws[q0]? = some (a, .inl (cA 0, n, .inl (fun k => zI (F k))))) (hn : n < 2147483648) (hi : 0 ≤ i ∧ i < (n : Int)) (hw : ws.set q0 (a, .inl (cA 0, n, .inl (fun k => zI (uz F i.toNat x k)))) = ws') (hdg : decode cc pc = .ok (.iastore, 1)) (k : LL p l e R s m args below meth c nL D A cells slots Q ws' (pc + 1) lv st) : LL p l e R s m args below meth c nL D A cells slots Q ws pc lv (.int (zI x) :: .int (zI i) :: .ref a :: st) := fun H locs ls hP hD hS hl => by
  rw [updz] at hw
  subst hw
  refine va_iast X.1.1 X.1.2.1 X.2.1 hP hD hS q0 0 he rfl (zI_in hi hn) hdg (fun H1 locs1 hP1 hD1 hS1 => ?_)
  rw [zI_cl (by omega)] at hP1 hD1
  exact k H1 locs1 ls hP1 hD1 hS1 hl
theorem ll_astq (X : Cn p s m args c cc own nL Ts D cA A) {a n v : Nat} {i : Int} {vs : List Value} {g : Nat → Option Nat} (q0 qk : Nat) (he : ws[q0]? = some (a, .inl (cA 3, n, .inr (.inr (.inr (.inr g)))))) (hv : ws[qk]? = some (v, .inr (7, vs))) (hn : n < 2147483648) (hi : 0 ≤ i ∧ i < (n : Int)) (hw : ws.set q0 (a, .inl (cA 3, n, .inr (.inr (.inr (.inr (va_up g i.toNat (some v))))))) = ws') (hdg : decode cc pc = .ok (.aastore, 1)) (k : LL p l e R s m args below meth c nL D A cells slots Q ws' (pc + 1) lv st) : LL p l e R s m args below meth c nL D A cells slots Q ws pc lv (.ref v :: .int (zI i) :: .ref a :: st) := fun H locs ls hP hD hS hl => by
  subst hw
  refine va_astq X.1.1 X.1.2.1 X.2.1 hP hD hS q0 3 qk 7 he rfl hv rfl (zI_in hi hn) hdg (fun H1 locs1 hP1 hD1 hS1 => ?_)
  rw [zI_cl (by omega)] at hP1 hD1
  exact k H1 locs1 ls hP1 hD1 hS1 hl
theorem ll_pick (is : List Nat) (hs : is.map (fun i => ws[i]?) = ws'.map some) (hn : va_nd is = true) (k : LL p l e R s m args below meth c nL D A cells slots Q ws' pc lv st) : LL p l e R s m args below meth c nL D A cells slots Q ws pc lv st := fun H locs ls hP hD hS hl => k H locs ls (P_pick is hs hP) (hD.sub is hn hs) hS hl
theorem ll_sub (ks : List Nat) (hv : lv_pick lv ks = lv') (k : LL p l e R s m args below meth c nL D A cells slots Q ws pc lv' st) : LL p l e R s m args below meth c nL D A cells slots Q ws pc lv st := fun H locs ls hP hD hS hl => k H locs ls hP hD hS (lv_sub hl ks hv)
theorem ll_wid {cells' slots' : Nat} (h : cells ≤ cells' ∧ slots ≤ slots') (k : LL p l e R s m args below meth c nL D A cells' slots' Q ws pc lv st) : LL p l e R s m args below meth c nL D A cells slots Q ws pc lv st := fun H locs ls hP hD hS hl => W.widen h.1 h.2 (k H locs ls hP hD hS hl)
theorem ll_vret {w0 : va_W} {post : (Nat → Nat) → Prop} {wo : (Nat → Nat) → va_W} {R : Room} (X : Cn p s m args c cc own nL Ts D cA (va_A w0 s.heap.size)) (hm : Mt meth none) (u : Nat → Nat) (hp : post u) (is : List Nat) (hs : is.map (fun i => ws[i]?) = (wo u).map some) (hn : va_nd is = true) (hdg : decode cc pc = .ok (.return_, 1)) : LL p l e R s m args below meth c nL D (va_A w0 s.heap.size) cells slots (QN below args s D w0 post wo cells slots) ws pc lv [] := fun H locs ls hP hD hS hl =>
  W.vret X.1.1 X.1.2.1 hm.1 (fun t ht hW => ⟨⟨u, rfl, hp, by show va_P D vwCl (wo u) t.heap; rw [ht]; exact P_pick is hs hP, hD.sub is hn hs⟩, hS.F ht⟩) hS.2.2 hdg hm.2
theorem ll_callN (X : Cn p s m args c cc own nL Ts D cA A) {y : MethodName} {w w' : List Cond} {fr mc ms lo index maxL b : Nat} {bytes : ByteArray} {As st0 : List Value} {post : (Nat → Nat) → Prop} {wo : (Nat → Nat) → va_W} {wr wc : va_W} {host : String} (n : Nat) (C : CtN l y w fr mc ms lo D cA (.ref b :: As) wc post wo) (hG : GoodIn Ts w) (hw : w = Cond.code y bytes maxL none :: w') (hl0 : va_Nw (.methodLinkNest own index y host) s) (hini : Cond.initialized y.cls ∈ Ts) (hinst : Cond.instanceMethod y ∈ Ts) (hn1 : y.name = "<init>") (hd : y.cls ≠ "java/lang/invoke/MethodHandle" ∧ y.cls ≠ "java/lang/invoke/VarHandle" ∧ (parseMethodDescriptor y.desc).map (fun d => d.parameters.length) = some n) (hR : fr + 1 ≤ R.frames ∧ 8 + (maxL + 11) + lo ≤ R.locals) (hst : (st.map fun v => v.category).sum ≤ 8) (hcs : cells + mc ≤ R.cells ∧ slots + ms ≤ R.slots) (hn : As.length = n) (hst0 : st0 = As.reverse ++ .ref b :: st) (hdg : decode cc pc = .ok (.invokespecial index, 3)) (kk : ∀ u : Nat → Nat, post u → LL p l e R s m args below meth c nL D A (cells + mc) (slots + ms) Q (wr ++ wo u) (pc + 3) lv st) : LL p l e R s m args below meth c nL D A cells slots Q (wr ++ wc) pc lv st0 := fun H locs ls hP hD hS hl => by
  have hPc := P_r hP
  have hDc := D_r hD
  have hF := free_r hD hS X.2.2.2.2
  refine va_callv (va_runIN (As := As) (rest := st) X.1 (C H.size) ⟨va_cnB n X.1.2.2.2.2 hG hw rfl rfl hl0 (X.1.2.2.2.2 _ hini) hd hR, hn1, X.1.2.2.2.2 _ hinst⟩ ⟨PcN_blind, fun U hU hW => ⟨rfl, by rw [hU], by rw [hU]; exact hPc, va_K.moved hW.alike X.2.1, vNi_warm hW X.2.2.1, vNs_warm hW X.2.2.2.1, hDc.weaken (fun _ _ _ _ => trivial)⟩⟩ rfl hn hl.1 hst0 (lv_room hst) hdg hcs) hS (fun q _ h => hF q h) hF (fun u t H1 locs1 ht hvm hw hB hz hk hS1 => ?_)
  obtain ⟨hB1, hB2⟩ := hB
  rw [ht] at hB1
  obtain ⟨hP2, hD2⟩ := jn_end hP hD hk hF hB1 hB2
  exact kk u hw H1 locs1 ls hP2 hD2 hS1 hl
theorem ll_callI (X : Cn p s m args c cc own nL Ts D cA A) {y : MethodName} {w w' : List Cond} {fr mc ms lo index maxL b : Nat} {bytes : ByteArray} {As st0 : List Value} {post : (Nat → Nat) → Prop} {wo : (Nat → Nat) → va_W} {wr wc : va_W} (n : Nat) (C : CtN l y w fr mc ms lo D cA (.ref b :: As) wc post wo) (hG : GoodIn Ts w) (hw : w = Cond.code y bytes maxL none :: w') (hini : Cond.initialized y.cls ∈ Ts) (hlink : Cond.methodLink own index y ∈ Ts) (hinst : Cond.instanceMethod y ∈ Ts) (hn1 : y.name = "<init>") (hd : y.cls ≠ "java/lang/invoke/MethodHandle" ∧ y.cls ≠ "java/lang/invoke/VarHandle" ∧ (parseMethodDescriptor y.desc).map (fun d => d.parameters.length) = some n) (hR : fr + 1 ≤ R.frames ∧ 8 + (maxL + 11) + lo ≤ R.locals) (hst : (st.map fun v => v.category).sum ≤ 8) (hcs : cells + mc ≤ R.cells ∧ slots + ms ≤ R.slots) (hn : As.length = n) (hst0 : st0 = As.reverse ++ .ref b :: st) (hdg : decode cc pc = .ok (.invokespecial index, 3)) (kk : ∀ u : Nat → Nat, post u → LL p l e R s m args below meth c nL D A (cells + mc) (slots + ms) Q (wr ++ wo u) (pc + 3) lv st) : LL p l e R s m args below meth c nL D A cells slots Q (wr ++ wc) pc lv st0 := fun H locs ls hP hD hS hl => by
  have hPc := P_r hP
  have hDc := D_r hD
  have hF := free_r hD hS X.2.2.2.2
  refine va_callv (va_runI (As := As) (rest := st) X.1 (C H.size) (cwI n X.1.2.2.2.2 hG hw rfl rfl (X.1.2.2.2.2 _ hini) (X.1.2.2.2.2 _ hlink) (X.1.2.2.2.2 _ hinst) hn1 hd hR) ⟨PcN_blind, fun U hU hW => ⟨rfl, by rw [hU], by rw [hU]; exact hPc, va_K.moved hW.alike X.2.1, vNi_warm hW X.2.2.1, vNs_warm hW X.2.2.2.1, hDc.weaken (fun _ _ _ _ => trivial)⟩⟩ rfl hn hl.1 hst0 (lv_room hst) hdg hcs) hS (fun q _ h => hF q h) hF (fun u t H1 locs1 ht hvm hw hB hz hk hS1 => ?_)
  obtain ⟨hB1, hB2⟩ := hB
  rw [ht] at hB1
  obtain ⟨hP2, hD2⟩ := jn_end hP hD hk hF hB1 hB2
  exact kk u hw H1 locs1 ls hP2 hD2 hS1 hl
theorem ll_callV (X : Cn p s m args c cc own nL Ts D cA A) {y : MethodName} {w w' : List Cond} {fr mc ms lo index maxL b : Nat} {bytes : ByteArray} {As st0 : List Value} {post : (Nat → Nat) → Prop} {wo : (Nat → Nat) → va_W} {wr wc : va_W} {ci Nf : Nat} {Cn : String} {T : u_T} {fs : List Value} {q0 : Nat} (n : Nat) (C : CtN l y w fr mc ms lo D cA (.ref b :: As) wc post wo) (hT : GoodIn Ts (wsV own index Cn y w)) (hw : w = Cond.code y bytes maxL none :: w') (hd : y.cls = Cn ∧ y.cls ≠ "java/lang/invoke/MethodHandle" ∧ y.cls ≠ "java/lang/invoke/VarHandle" ∧ (parseMethodDescriptor y.desc).map (fun d => d.parameters.length) = some n) (hc : vwCl[ci]? = some (Cn, T, Nf)) (he : wc[q0]? = some (b, .inr (ci, fs))) (hR : fr + 1 ≤ R.frames ∧ 8 + (maxL + 11) + lo ≤ R.locals) (hst : (st.map fun v => v.category).sum ≤ 8) (hcs : cells + mc ≤ R.cells ∧ slots + ms ≤ R.slots) (hn : As.length = n) (hst0 : st0 = As.reverse ++ .ref b :: st) (hdg : decode cc pc = .ok (.invokevirtual index, 3)) (kk : ∀ u : Nat → Nat, post u → LL p l e R s m args below meth c nL D A (cells + mc) (slots + ms) Q (wr ++ wo u) (pc + 3) lv st) : LL p l e R s m args below meth c nL D A cells slots Q (wr ++ wc) pc lv st0 := fun H locs ls hP hD hS hl => by
  have hPc := P_r hP
  have hDc := D_r hD
  have hF := free_r hD hS X.2.2.2.2
  refine va_callv (va_runV (As := As) (rest := st) X.1 (C H.size) (cwV n X.1.2.2.2.2 hT hw rfl rfl hd hR) ⟨PcN_blind, va_recv X.2.1 hPc hc he, fun U hU hW => ⟨rfl, by rw [hU], by rw [hU]; exact hPc, va_K.moved hW.alike X.2.1, vNi_warm hW X.2.2.1, vNs_warm hW X.2.2.2.1, hDc.weaken (fun _ _ _ _ => trivial)⟩⟩ rfl hn hl.1 hst0 (lv_room hst) hdg hcs) hS (fun q _ h => hF q h) hF (fun u t H1 locs1 ht hvm hw hB hz hk hS1 => ?_)
  obtain ⟨hB1, hB2⟩ := hB
  rw [ht] at hB1
  obtain ⟨hP2, hD2⟩ := jn_end hP hD hk hF hB1 hB2
  exact kk u hw H1 locs1 ls hP2 hD2 hS1 hl
end LR
