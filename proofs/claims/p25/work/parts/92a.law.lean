/-! ===== the law ===== -/
abbrev AL (s : State) : Nat → Prop := fun q => s.heap.size ≤ q
section LW
variable {p : Program} {l : Launch} {e : Env} {R : Room} {s : State} {m : MethodId} {args : Array Value} {below : List Frame} {meth : Method} {c : Code} {Q : State → Prop} {cells slots : Nat}
variable {cc : ByteArray} {own : String} {nL : Nat} {Ts : List Cond} {D : va_G} {ad : Nat → Nat} {cA : Nat → ClassId} {M : Mem} {pc : Nat} {lv lv' : List (Nat × Value)} {st : List Value} {b L : Nat} {xs : Nat → Int32}
theorem vv_lawret (hx : p.tables.exec = Jvm.exec) (hb : c.code = code) (hr : meth.sig.returnType = ret) (hlocks : meth.locks = false) (hcs : cells ≤ 600000 ∧ slots ≤ 7302250) (hdg : decode code pc = .ok (.ireturn, 1)) : VV p l e room_1 s m #[Value.ref b] below meth c nL D ad cA (AL s) cells slots (lw_Z below #[Value.ref b] s) M pc lv [.int (zI 1)] := fun H locs ls hP hS hl =>
  va_forget (fun q hq => hS.2.2 q hq) (W.widen (k := 600000) (n := 7302250) hcs.1 hcs.2 (lw_ret hx hb hr hlocks hdg))
theorem HI_c {M N : Mem} (h : HI M) (e9 : ∀ a, a < 105 → N a = M a) : HI N := by
  unfold HI at h ⊢
  rw [e9 91 (by decide)]
  exact h
theorem vC_c {M N : Mem} (e9 : ∀ a, a < 105 → N a = M a) : vC N 0 = vC M 0 := vC_eq (fun a _ h => e9 a (by omega))
theorem WF_c {M N : Mem} (h : WF (vC M 0)) (e9 : ∀ a, a < 105 → N a = M a) : WF (vC N 0) := by
  rw [vC_c e9]
  exact h
theorem vL_k {M N : Mem} (e5 : N 105 = M 105) (e6 : N 106 = M 106) (e7 : N 107 = M 107) (e8 : N 108 = M 108) : eqA (vL M) (vL N) := by
  unfold vL
  rw [e5, e6, e7, e8]
  exact eqA_rf _
theorem pri_L {M M2 : Mem} {x : Int} (e5 : M2 105 = uz (uz (M 105) 0 x) 2 1) (e6 : M2 106 = M 106) (e7 : M2 107 = uz (M 107) 0 1) (e8 : M2 108 = uz (M 108) 0 x) : eqA (x, (vL M).2.1, (vL M).2.2.1, 1, (fun _ => 1), (fun _ => x)) (vL M2) := by
  refine ⟨?_, ?_, fun c k _ _ => ?_, ?_, fun k hk => ?_⟩
  · show x = M2 105 0
    rw [e5, uz_n _ _ (by decide), uz_s]
  · show M 105 1 = M2 105 1
    rw [e5, uz_n _ _ (by decide), uz_n _ _ (by decide)]
  · show M 106 (4 * k + c) = M2 106 (4 * k + c)
    rw [e6]
  · show (1 : Int) = M2 105 2
    rw [e5, uz_s]
  · have hk' : (k : Int) < 1 := hk
    have h0 : k = 0 := by omega
    subst h0
    refine ⟨?_, ?_⟩
    · show (1 : Int) = M2 107 0
      rw [e7, uz_s]
    · show x = M2 108 0
      rw [e8, uz_s]
end LW
