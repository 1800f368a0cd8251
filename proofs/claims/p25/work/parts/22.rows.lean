section VR2
variable {p : Program} {l : Launch} {e : Env} {R : Room} {s : State} {m : MethodId} {args : Array Value} {below : List Frame} {meth : Method} {c : Code} {Q : State → Prop} {cells slots : Nat}
variable {cc : ByteArray} {own : String} {nL : Nat} {Ts : List Cond} {D : va_G} {ad : Nat → Nat} {cA : Nat → ClassId} {A : Nat → Prop} {M : Mem} {pc : Nat} {lv lv' : List (Nat × Value)} {st : List Value}
theorem vv_lcmp (X : Cx p s m args c cc own nL Ts D ad cA A) {x y : Int64} {z : Int} (hv : lg_cmp x y = zI z) (hdg : decode cc pc = .ok (.lcmp, 1)) (k : VV p l e R s m args below meth c nL D ad cA A cells slots Q M (pc + 1) lv (.int (zI z) :: st)) : VV p l e R s m args below meth c nL D ad cA A cells slots Q M pc lv (.long y :: .long x :: st) := fun H locs ls hP hS hl => W.lcmp X.1.1 X.1.2.1 hdg (by rw [hv]; exact (k H locs ls hP hS hl))
theorem vv_alen (X : Cx p s m args c cc own nL Ts D ad cA A) {i t n : Nat} {ty : FieldType} (hi : i < 113) (hs : sh i = .inr (t, n, none)) (ht : (tyL cA)[t]? = some (cA t, ty)) (hv : Int32.ofNat n = zI (n : Int)) (hdg : decode cc pc = .ok (.arraylength, 1)) (k : VV p l e R s m args below meth c nL D ad cA A cells slots Q M (pc + 1) lv (.int (zI (n : Int)) :: st)) : VV p l e R s m args below meth c nL D ad cA A cells slots Q M pc lv (.ref (ad i) :: st) := fun H locs ls hP hS hl => va_alen X.1.1 X.1.2.1 X.2.1 hP i t (wld_a hi hs) ht hv hdg (k H locs ls hP hS hl)
end VR2
theorem sh_fc {i : Nat} (h : i = 103 ∨ i = 104) : sh i = .inl (1, [none, none]) := by
  rcases h with rfl | rfl <;> rfl
theorem stc_eq {M : Mem} {i : Nat} {f g : Nat → Int} (h : ∀ k, f k = g k) : stc M i f = stc M i g := by rw [funext h]
theorem stc_id {M : Mem} {i : Nat} : stc M i (M i) = M := by
  funext a
  unfold stc
  split
  · next h => rw [h]
  · rfl
theorem stc_stc {M : Mem} {i : Nat} {f g : Nat → Int} : stc (stc M i f) i g = stc M i g := by
  funext a
  unfold stc
  split <;> rfl
theorem up2_stc {M : Mem} {i k : Nat} {f : Nat → Int} {x : Int} : up2 (stc M i f) i k x = stc M i (uz f k x) := by
  unfold up2
  rw [stc_stc, stc_s]
