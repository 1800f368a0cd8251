/-! ===== the cells of a new object, in the memory's order ===== -/
def U8 (h : Nat) (u2 u4 : Nat → Nat) (q5 : Nat) (u7 u9 : Nat → Nat) (q10 : Nat) (u12 u14 u16 u18 u20 : Nat → Nat) : Nat → Nat := fun c => if c < 9 then u2 c else if c < 18 then u7 (c - 9) else if c < 27 then u9 (c - 18) else if c < 90 then u4 (c - 25) else if c = 90 then h else if c < 93 then u4 (c - 91) else if c = 93 then q5 else if c = 94 then q10 else if c < 98 then u12 (c - 95) else if c < 100 then u14 (c - 98) else if c < 103 then u16 (c - 100) else if c = 103 then u18 0 else u20 0
def pl8 (i : Nat) : Nat := if i < 9 then i + 1 else if i < 27 then i + 67 else if i < 90 then i - 15 else if i = 90 then 0 else if i < 93 then i - 81 else if i = 93 then 75 else i
theorem ap_l {a b : va_W} {i : Nat} (h : i < a.length) : (a ++ b)[i]? = a[i]? := List.getElem?_append_left h
theorem ap_r {a b : va_W} {i : Nat} (k : Nat) (h : i = a.length + k) : (a ++ b)[i]? = b[k]? := by
  rw [List.getElem?_append_right (by omega), show i - a.length = k by omega]
def WS8 (cA : Nat → ClassId) (h : Nat) (u2 u4 : Nat → Nat) (q5 : Nat) (u7 u9 : Nat → Nat) (q10 : Nat) (u12 u14 u16 u18 u20 : Nat → Nat) : va_W := ((((((((((([(h, .inr (8, [.ref (u2 0), .ref (u4 0), .ref q5, .ref q10, .ref (u12 0), .ref (u14 0), .ref (u16 0), .ref (u18 0), .ref (u20 0)]))] ++ (wX7 cA u2)) ++ (wX2g cA u4 (fun k => some (U8 h u2 u4 q5 u7 u9 q10 u12 u14 u16 u18 u20 (9 * (k + 3)))))) ++ [(q5, .inl (cA 3, 2, .inr (.inr (.inr (.inr (fun k => some (U8 h u2 u4 q5 u7 u9 q10 u12 u14 u16 u18 u20 (9 * (k + 1)))))))))]) ++ (wX7 cA u7)) ++ (wX7 cA u9)) ++ [(q10, .inl (cA 2, 2, .inl (fun _ => zI 0)))]) ++ (wX4 cA u12)) ++ (wX3 cA u14)) ++ (wX0 cA u16)) ++ (wX1 cA u18)) ++ (wX1 cA u20))
theorem ln8_1 (cA : Nat → ClassId) (h : Nat) (u2 u4 : Nat → Nat) (q5 : Nat) (u7 u9 : Nat → Nat) (q10 : Nat) (u12 u14 u16 u18 u20 : Nat → Nat) : ([(h, .inr (8, [.ref (u2 0), .ref (u4 0), .ref q5, .ref q10, .ref (u12 0), .ref (u14 0), .ref (u16 0), .ref (u18 0), .ref (u20 0)]))] : va_W).length = 1 := rfl
theorem ln8_2 (cA : Nat → ClassId) (h : Nat) (u2 u4 : Nat → Nat) (q5 : Nat) (u7 u9 : Nat → Nat) (q10 : Nat) (u12 u14 u16 u18 u20 : Nat → Nat) : (([(h, .inr (8, [.ref (u2 0), .ref (u4 0), .ref q5, .ref q10, .ref (u12 0), .ref (u14 0), .ref (u16 0), .ref (u18 0), .ref (u20 0)]))] ++ (wX7 cA u2)) : va_W).length = 10 := rfl
theorem ln8_3 (cA : Nat → ClassId) (h : Nat) (u2 u4 : Nat → Nat) (q5 : Nat) (u7 u9 : Nat → Nat) (q10 : Nat) (u12 u14 u16 u18 u20 : Nat → Nat) : ((([(h, .inr (8, [.ref (u2 0), .ref (u4 0), .ref q5, .ref q10, .ref (u12 0), .ref (u14 0), .ref (u16 0), .ref (u18 0), .ref (u20 0)]))] ++ (wX7 cA u2)) ++ (wX2g cA u4 (fun k => some (U8 h u2 u4 q5 u7 u9 q10 u12 u14 u16 u18 u20 (9 * (k + 3)))))) : va_W).length = 75 := rfl
theorem ln8_4 (cA : Nat → ClassId) (h : Nat) (u2 u4 : Nat → Nat) (q5 : Nat) (u7 u9 : Nat → Nat) (q10 : Nat) (u12 u14 u16 u18 u20 : Nat → Nat) : (((([(h, .inr (8, [.ref (u2 0), .ref (u4 0), .ref q5, .ref q10, .ref (u12 0), .ref (u14 0), .ref (u16 0), .ref (u18 0), .ref (u20 0)]))] ++ (wX7 cA u2)) ++ (wX2g cA u4 (fun k => some (U8 h u2 u4 q5 u7 u9 q10 u12 u14 u16 u18 u20 (9 * (k + 3)))))) ++ [(q5, .inl (cA 3, 2, .inr (.inr (.inr (.inr (fun k => some (U8 h u2 u4 q5 u7 u9 q10 u12 u14 u16 u18 u20 (9 * (k + 1)))))))))]) : va_W).length = 76 := rfl
theorem ln8_5 (cA : Nat → ClassId) (h : Nat) (u2 u4 : Nat → Nat) (q5 : Nat) (u7 u9 : Nat → Nat) (q10 : Nat) (u12 u14 u16 u18 u20 : Nat → Nat) : ((((([(h, .inr (8, [.ref (u2 0), .ref (u4 0), .ref q5, .ref q10, .ref (u12 0), .ref (u14 0), .ref (u16 0), .ref (u18 0), .ref (u20 0)]))] ++ (wX7 cA u2)) ++ (wX2g cA u4 (fun k => some (U8 h u2 u4 q5 u7 u9 q10 u12 u14 u16 u18 u20 (9 * (k + 3)))))) ++ [(q5, .inl (cA 3, 2, .inr (.inr (.inr (.inr (fun k => some (U8 h u2 u4 q5 u7 u9 q10 u12 u14 u16 u18 u20 (9 * (k + 1)))))))))]) ++ (wX7 cA u7)) : va_W).length = 85 := rfl
theorem ln8_6 (cA : Nat → ClassId) (h : Nat) (u2 u4 : Nat → Nat) (q5 : Nat) (u7 u9 : Nat → Nat) (q10 : Nat) (u12 u14 u16 u18 u20 : Nat → Nat) : (((((([(h, .inr (8, [.ref (u2 0), .ref (u4 0), .ref q5, .ref q10, .ref (u12 0), .ref (u14 0), .ref (u16 0), .ref (u18 0), .ref (u20 0)]))] ++ (wX7 cA u2)) ++ (wX2g cA u4 (fun k => some (U8 h u2 u4 q5 u7 u9 q10 u12 u14 u16 u18 u20 (9 * (k + 3)))))) ++ [(q5, .inl (cA 3, 2, .inr (.inr (.inr (.inr (fun k => some (U8 h u2 u4 q5 u7 u9 q10 u12 u14 u16 u18 u20 (9 * (k + 1)))))))))]) ++ (wX7 cA u7)) ++ (wX7 cA u9)) : va_W).length = 94 := rfl
theorem ln8_7 (cA : Nat → ClassId) (h : Nat) (u2 u4 : Nat → Nat) (q5 : Nat) (u7 u9 : Nat → Nat) (q10 : Nat) (u12 u14 u16 u18 u20 : Nat → Nat) : ((((((([(h, .inr (8, [.ref (u2 0), .ref (u4 0), .ref q5, .ref q10, .ref (u12 0), .ref (u14 0), .ref (u16 0), .ref (u18 0), .ref (u20 0)]))] ++ (wX7 cA u2)) ++ (wX2g cA u4 (fun k => some (U8 h u2 u4 q5 u7 u9 q10 u12 u14 u16 u18 u20 (9 * (k + 3)))))) ++ [(q5, .inl (cA 3, 2, .inr (.inr (.inr (.inr (fun k => some (U8 h u2 u4 q5 u7 u9 q10 u12 u14 u16 u18 u20 (9 * (k + 1)))))))))]) ++ (wX7 cA u7)) ++ (wX7 cA u9)) ++ [(q10, .inl (cA 2, 2, .inl (fun _ => zI 0)))]) : va_W).length = 95 := rfl
theorem ln8_8 (cA : Nat → ClassId) (h : Nat) (u2 u4 : Nat → Nat) (q5 : Nat) (u7 u9 : Nat → Nat) (q10 : Nat) (u12 u14 u16 u18 u20 : Nat → Nat) : (((((((([(h, .inr (8, [.ref (u2 0), .ref (u4 0), .ref q5, .ref q10, .ref (u12 0), .ref (u14 0), .ref (u16 0), .ref (u18 0), .ref (u20 0)]))] ++ (wX7 cA u2)) ++ (wX2g cA u4 (fun k => some (U8 h u2 u4 q5 u7 u9 q10 u12 u14 u16 u18 u20 (9 * (k + 3)))))) ++ [(q5, .inl (cA 3, 2, .inr (.inr (.inr (.inr (fun k => some (U8 h u2 u4 q5 u7 u9 q10 u12 u14 u16 u18 u20 (9 * (k + 1)))))))))]) ++ (wX7 cA u7)) ++ (wX7 cA u9)) ++ [(q10, .inl (cA 2, 2, .inl (fun _ => zI 0)))]) ++ (wX4 cA u12)) : va_W).length = 98 := rfl
theorem ln8_9 (cA : Nat → ClassId) (h : Nat) (u2 u4 : Nat → Nat) (q5 : Nat) (u7 u9 : Nat → Nat) (q10 : Nat) (u12 u14 u16 u18 u20 : Nat → Nat) : ((((((((([(h, .inr (8, [.ref (u2 0), .ref (u4 0), .ref q5, .ref q10, .ref (u12 0), .ref (u14 0), .ref (u16 0), .ref (u18 0), .ref (u20 0)]))] ++ (wX7 cA u2)) ++ (wX2g cA u4 (fun k => some (U8 h u2 u4 q5 u7 u9 q10 u12 u14 u16 u18 u20 (9 * (k + 3)))))) ++ [(q5, .inl (cA 3, 2, .inr (.inr (.inr (.inr (fun k => some (U8 h u2 u4 q5 u7 u9 q10 u12 u14 u16 u18 u20 (9 * (k + 1)))))))))]) ++ (wX7 cA u7)) ++ (wX7 cA u9)) ++ [(q10, .inl (cA 2, 2, .inl (fun _ => zI 0)))]) ++ (wX4 cA u12)) ++ (wX3 cA u14)) : va_W).length = 100 := rfl
theorem ln8_10 (cA : Nat → ClassId) (h : Nat) (u2 u4 : Nat → Nat) (q5 : Nat) (u7 u9 : Nat → Nat) (q10 : Nat) (u12 u14 u16 u18 u20 : Nat → Nat) : (((((((((([(h, .inr (8, [.ref (u2 0), .ref (u4 0), .ref q5, .ref q10, .ref (u12 0), .ref (u14 0), .ref (u16 0), .ref (u18 0), .ref (u20 0)]))] ++ (wX7 cA u2)) ++ (wX2g cA u4 (fun k => some (U8 h u2 u4 q5 u7 u9 q10 u12 u14 u16 u18 u20 (9 * (k + 3)))))) ++ [(q5, .inl (cA 3, 2, .inr (.inr (.inr (.inr (fun k => some (U8 h u2 u4 q5 u7 u9 q10 u12 u14 u16 u18 u20 (9 * (k + 1)))))))))]) ++ (wX7 cA u7)) ++ (wX7 cA u9)) ++ [(q10, .inl (cA 2, 2, .inl (fun _ => zI 0)))]) ++ (wX4 cA u12)) ++ (wX3 cA u14)) ++ (wX0 cA u16)) : va_W).length = 103 := rfl
theorem ln8_11 (cA : Nat → ClassId) (h : Nat) (u2 u4 : Nat → Nat) (q5 : Nat) (u7 u9 : Nat → Nat) (q10 : Nat) (u12 u14 u16 u18 u20 : Nat → Nat) : ((((((((((([(h, .inr (8, [.ref (u2 0), .ref (u4 0), .ref q5, .ref q10, .ref (u12 0), .ref (u14 0), .ref (u16 0), .ref (u18 0), .ref (u20 0)]))] ++ (wX7 cA u2)) ++ (wX2g cA u4 (fun k => some (U8 h u2 u4 q5 u7 u9 q10 u12 u14 u16 u18 u20 (9 * (k + 3)))))) ++ [(q5, .inl (cA 3, 2, .inr (.inr (.inr (.inr (fun k => some (U8 h u2 u4 q5 u7 u9 q10 u12 u14 u16 u18 u20 (9 * (k + 1)))))))))]) ++ (wX7 cA u7)) ++ (wX7 cA u9)) ++ [(q10, .inl (cA 2, 2, .inl (fun _ => zI 0)))]) ++ (wX4 cA u12)) ++ (wX3 cA u14)) ++ (wX0 cA u16)) ++ (wX1 cA u18)) : va_W).length = 104 := rfl
theorem s8_0 (cA : Nat → ClassId) (h : Nat) (u2 u4 : Nat → Nat) (q5 : Nat) (u7 u9 : Nat → Nat) (q10 : Nat) (u12 u14 u16 u18 u20 : Nat → Nat) : ∀ k, k < 1 → (WS8 cA h u2 u4 q5 u7 u9 q10 u12 u14 u16 u18 u20)[0 + k]? = ([(h, .inr (8, [.ref (u2 0), .ref (u4 0), .ref q5, .ref q10, .ref (u12 0), .ref (u14 0), .ref (u16 0), .ref (u18 0), .ref (u20 0)]))] : va_W)[k]? := fun k hk => by
  unfold WS8
  refine (ap_l (by rw [ln8_11 cA h u2 u4 q5 u7 u9 q10 u12 u14 u16 u18 u20]; omega)).trans ?_
  refine (ap_l (by rw [ln8_10 cA h u2 u4 q5 u7 u9 q10 u12 u14 u16 u18 u20]; omega)).trans ?_
  refine (ap_l (by rw [ln8_9 cA h u2 u4 q5 u7 u9 q10 u12 u14 u16 u18 u20]; omega)).trans ?_
  refine (ap_l (by rw [ln8_8 cA h u2 u4 q5 u7 u9 q10 u12 u14 u16 u18 u20]; omega)).trans ?_
  refine (ap_l (by rw [ln8_7 cA h u2 u4 q5 u7 u9 q10 u12 u14 u16 u18 u20]; omega)).trans ?_
  refine (ap_l (by rw [ln8_6 cA h u2 u4 q5 u7 u9 q10 u12 u14 u16 u18 u20]; omega)).trans ?_
  refine (ap_l (by rw [ln8_5 cA h u2 u4 q5 u7 u9 q10 u12 u14 u16 u18 u20]; omega)).trans ?_
  refine (ap_l (by rw [ln8_4 cA h u2 u4 q5 u7 u9 q10 u12 u14 u16 u18 u20]; omega)).trans ?_
  refine (ap_l (by rw [ln8_3 cA h u2 u4 q5 u7 u9 q10 u12 u14 u16 u18 u20]; omega)).trans ?_
  refine (ap_l (by rw [ln8_2 cA h u2 u4 q5 u7 u9 q10 u12 u14 u16 u18 u20]; omega)).trans ?_
  refine (ap_l (by rw [ln8_1 cA h u2 u4 q5 u7 u9 q10 u12 u14 u16 u18 u20]; omega)).trans ?_
  exact congrArg (fun i => ([(h, .inr (8, [.ref (u2 0), .ref (u4 0), .ref q5, .ref q10, .ref (u12 0), .ref (u14 0), .ref (u16 0), .ref (u18 0), .ref (u20 0)]))] : va_W)[i]?) (Nat.zero_add k)
theorem c8_0 (cA : Nat → ClassId) (h : Nat) (u2 u4 : Nat → Nat) (q5 : Nat) (u7 u9 : Nat → Nat) (q10 : Nat) (u12 u14 u16 u18 u20 : Nat → Nat) : ∀ k, k < 1 → ([(h, .inr (8, [.ref (u2 0), .ref (u4 0), .ref q5, .ref q10, .ref (u12 0), .ref (u14 0), .ref (u16 0), .ref (u18 0), .ref (u20 0)]))] : va_W)[k]? = some (U8 h u2 u4 q5 u7 u9 q10 u12 u14 u16 u18 u20 (90), cellV (U8 h u2 u4 q5 u7 u9 q10 u12 u14 u16 u18 u20) cA (sh (90)) (M0 (90))) := fun k hk => by
  have e : k = 0 := by omega
  subst e
  rfl
theorem s8_1 (cA : Nat → ClassId) (h : Nat) (u2 u4 : Nat → Nat) (q5 : Nat) (u7 u9 : Nat → Nat) (q10 : Nat) (u12 u14 u16 u18 u20 : Nat → Nat) : ∀ k, k < 9 → (WS8 cA h u2 u4 q5 u7 u9 q10 u12 u14 u16 u18 u20)[1 + k]? = ((wX7 cA u2) : va_W)[k]? := fun k hk => by
  unfold WS8
  refine (ap_l (by rw [ln8_11 cA h u2 u4 q5 u7 u9 q10 u12 u14 u16 u18 u20]; omega)).trans ?_
  refine (ap_l (by rw [ln8_10 cA h u2 u4 q5 u7 u9 q10 u12 u14 u16 u18 u20]; omega)).trans ?_
  refine (ap_l (by rw [ln8_9 cA h u2 u4 q5 u7 u9 q10 u12 u14 u16 u18 u20]; omega)).trans ?_
  refine (ap_l (by rw [ln8_8 cA h u2 u4 q5 u7 u9 q10 u12 u14 u16 u18 u20]; omega)).trans ?_
  refine (ap_l (by rw [ln8_7 cA h u2 u4 q5 u7 u9 q10 u12 u14 u16 u18 u20]; omega)).trans ?_
  refine (ap_l (by rw [ln8_6 cA h u2 u4 q5 u7 u9 q10 u12 u14 u16 u18 u20]; omega)).trans ?_
  refine (ap_l (by rw [ln8_5 cA h u2 u4 q5 u7 u9 q10 u12 u14 u16 u18 u20]; omega)).trans ?_
  refine (ap_l (by rw [ln8_4 cA h u2 u4 q5 u7 u9 q10 u12 u14 u16 u18 u20]; omega)).trans ?_
  refine (ap_l (by rw [ln8_3 cA h u2 u4 q5 u7 u9 q10 u12 u14 u16 u18 u20]; omega)).trans ?_
  refine (ap_l (by rw [ln8_2 cA h u2 u4 q5 u7 u9 q10 u12 u14 u16 u18 u20]; omega)).trans ?_
  refine (ap_r k (by rw [ln8_1 cA h u2 u4 q5 u7 u9 q10 u12 u14 u16 u18 u20])).trans ?_
  rfl
theorem c8_1 (cA : Nat → ClassId) (h : Nat) (u2 u4 : Nat → Nat) (q5 : Nat) (u7 u9 : Nat → Nat) (q10 : Nat) (u12 u14 u16 u18 u20 : Nat → Nat) : ∀ k, k < 9 → ((wX7 cA u2) : va_W)[k]? = some (U8 h u2 u4 q5 u7 u9 q10 u12 u14 u16 u18 u20 (k), cellV (U8 h u2 u4 q5 u7 u9 q10 u12 u14 u16 u18 u20) cA (sh (k)) (M0 (k))) := fun k hk => by
  rcases (show k = 0 ∨ k = 1 ∨ k = 2 ∨ k = 3 ∨ k = 4 ∨ k = 5 ∨ k = 6 ∨ k = 7 ∨ k = 8 by omega) with rfl | rfl | rfl | rfl | rfl | rfl | rfl | rfl | rfl
  · rfl
  · rfl
  · rfl
  · rfl
  · rfl
  · rfl
  · rfl
  · rfl
  · rfl
theorem s8_2 (cA : Nat → ClassId) (h : Nat) (u2 u4 : Nat → Nat) (q5 : Nat) (u7 u9 : Nat → Nat) (q10 : Nat) (u12 u14 u16 u18 u20 : Nat → Nat) : ∀ k, k < 65 → (WS8 cA h u2 u4 q5 u7 u9 q10 u12 u14 u16 u18 u20)[10 + k]? = ((wX2g cA u4 (fun k => some (U8 h u2 u4 q5 u7 u9 q10 u12 u14 u16 u18 u20 (9 * (k + 3))))) : va_W)[k]? := fun k hk => by
  unfold WS8
  refine (ap_l (by rw [ln8_11 cA h u2 u4 q5 u7 u9 q10 u12 u14 u16 u18 u20]; omega)).trans ?_
  refine (ap_l (by rw [ln8_10 cA h u2 u4 q5 u7 u9 q10 u12 u14 u16 u18 u20]; omega)).trans ?_
  refine (ap_l (by rw [ln8_9 cA h u2 u4 q5 u7 u9 q10 u12 u14 u16 u18 u20]; omega)).trans ?_
  refine (ap_l (by rw [ln8_8 cA h u2 u4 q5 u7 u9 q10 u12 u14 u16 u18 u20]; omega)).trans ?_
  refine (ap_l (by rw [ln8_7 cA h u2 u4 q5 u7 u9 q10 u12 u14 u16 u18 u20]; omega)).trans ?_
  refine (ap_l (by rw [ln8_6 cA h u2 u4 q5 u7 u9 q10 u12 u14 u16 u18 u20]; omega)).trans ?_
  refine (ap_l (by rw [ln8_5 cA h u2 u4 q5 u7 u9 q10 u12 u14 u16 u18 u20]; omega)).trans ?_
  refine (ap_l (by rw [ln8_4 cA h u2 u4 q5 u7 u9 q10 u12 u14 u16 u18 u20]; omega)).trans ?_
  refine (ap_l (by rw [ln8_3 cA h u2 u4 q5 u7 u9 q10 u12 u14 u16 u18 u20]; omega)).trans ?_
  refine (ap_r k (by rw [ln8_2 cA h u2 u4 q5 u7 u9 q10 u12 u14 u16 u18 u20])).trans ?_
  rfl
theorem c8_2 (cA : Nat → ClassId) (h : Nat) (u2 u4 : Nat → Nat) (q5 : Nat) (u7 u9 : Nat → Nat) (q10 : Nat) (u12 u14 u16 u18 u20 : Nat → Nat) : ∀ k, k < 2 → ((wX2g cA u4 (fun k => some (U8 h u2 u4 q5 u7 u9 q10 u12 u14 u16 u18 u20 (9 * (k + 3))))) : va_W)[k]? = some (U8 h u2 u4 q5 u7 u9 q10 u12 u14 u16 u18 u20 (91 + k), cellV (U8 h u2 u4 q5 u7 u9 q10 u12 u14 u16 u18 u20) cA (sh (91 + k)) (M0 (91 + k))) := fun k hk => by
  rcases (show k = 0 ∨ k = 1 by omega) with rfl | rfl
  · rfl
  · rfl
theorem c8_2b (cA : Nat → ClassId) (h : Nat) (u2 u4 : Nat → Nat) (q5 : Nat) (u7 u9 : Nat → Nat) (q10 : Nat) (u12 u14 u16 u18 u20 : Nat → Nat) : ∀ k, k < 63 → ((wX2g cA u4 (fun k => some (U8 h u2 u4 q5 u7 u9 q10 u12 u14 u16 u18 u20 (9 * (k + 3))))) : va_W)[2 + k]? = some (U8 h u2 u4 q5 u7 u9 q10 u12 u14 u16 u18 u20 (27 + k), cellV (U8 h u2 u4 q5 u7 u9 q10 u12 u14 u16 u18 u20) cA (sh (27 + k)) (M0 (27 + k))) := fun k hk => by
  rcases (show k = 0 ∨ k = 1 ∨ k = 2 ∨ k = 3 ∨ k = 4 ∨ k = 5 ∨ k = 6 ∨ k = 7 ∨ k = 8 ∨ k = 9 ∨ k = 10 ∨ k = 11 ∨ k = 12 ∨ k = 13 ∨ k = 14 ∨ k = 15 ∨ k = 16 ∨ k = 17 ∨ k = 18 ∨ k = 19 ∨ k = 20 ∨ k = 21 ∨ k = 22 ∨ k = 23 ∨ k = 24 ∨ k = 25 ∨ k = 26 ∨ k = 27 ∨ k = 28 ∨ k = 29 ∨ k = 30 ∨ k = 31 ∨ k = 32 ∨ k = 33 ∨ k = 34 ∨ k = 35 ∨ k = 36 ∨ k = 37 ∨ k = 38 ∨ k = 39 ∨ k = 40 ∨ k = 41 ∨ k = 42 ∨ k = 43 ∨ k = 44 ∨ k = 45 ∨ k = 46 ∨ k = 47 ∨ k = 48 ∨ k = 49 ∨ k = 50 ∨ k = 51 ∨ k = 52 ∨ k = 53 ∨ k = 54 ∨ k = 55 ∨ k = 56 ∨ k = 57 ∨ k = 58 ∨ k = 59 ∨ k = 60 ∨ k = 61 ∨ k = 62 by omega) with rfl | rfl | rfl | rfl | rfl | rfl | rfl | rfl | rfl | rfl | rfl | rfl | rfl | rfl | rfl | rfl | rfl | rfl | rfl | rfl | rfl | rfl | rfl | rfl | rfl | rfl | rfl | rfl | rfl | rfl | rfl | rfl | rfl | rfl | rfl | rfl | rfl | rfl | rfl | rfl | rfl | rfl | rfl | rfl | rfl | rfl | rfl | rfl | rfl | rfl | rfl | rfl | rfl | rfl | rfl | rfl | rfl | rfl | rfl | rfl | rfl | rfl | rfl
  · rfl
  · rfl
  · rfl
  · rfl
  · rfl
  · rfl
  · rfl
  · rfl
  · rfl
  · rfl
  · rfl
  · rfl
  · rfl
  · rfl
  · rfl
  · rfl
  · rfl
  · rfl
  · rfl
  · rfl
  · rfl
  · rfl
  · rfl
  · rfl
  · rfl
  · rfl
  · rfl
  · rfl
  · rfl
  · rfl
  · rfl
  · rfl
  · rfl
  · rfl
  · rfl
  · rfl
  · rfl
  · rfl
  · rfl
  · rfl
  · rfl
  · rfl
  · rfl
  · rfl
  · rfl
  · rfl
  · rfl
  · rfl
  · rfl
  · rfl
  · rfl
  · rfl
  · rfl
  · rfl
  · rfl
  · rfl
  · rfl
  · rfl
  · rfl
  · rfl
  · rfl
  · rfl
  · rfl
theorem s8_2b (cA : Nat → ClassId) (h : Nat) (u2 u4 : Nat → Nat) (q5 : Nat) (u7 u9 : Nat → Nat) (q10 : Nat) (u12 u14 u16 u18 u20 : Nat → Nat) : ∀ k, k < 63 → (WS8 cA h u2 u4 q5 u7 u9 q10 u12 u14 u16 u18 u20)[12 + k]? = ((wX2g cA u4 (fun k => some (U8 h u2 u4 q5 u7 u9 q10 u12 u14 u16 u18 u20 (9 * (k + 3))))) : va_W)[2 + k]? := fun k hk => by
  rw [show 12 + k = 10 + (2 + k) by omega]
  exact s8_2 cA h u2 u4 q5 u7 u9 q10 u12 u14 u16 u18 u20 (2 + k) (by omega)
theorem s8_3 (cA : Nat → ClassId) (h : Nat) (u2 u4 : Nat → Nat) (q5 : Nat) (u7 u9 : Nat → Nat) (q10 : Nat) (u12 u14 u16 u18 u20 : Nat → Nat) : ∀ k, k < 1 → (WS8 cA h u2 u4 q5 u7 u9 q10 u12 u14 u16 u18 u20)[75 + k]? = ([(q5, .inl (cA 3, 2, .inr (.inr (.inr (.inr (fun k => some (U8 h u2 u4 q5 u7 u9 q10 u12 u14 u16 u18 u20 (9 * (k + 1)))))))))] : va_W)[k]? := fun k hk => by
  unfold WS8
  refine (ap_l (by rw [ln8_11 cA h u2 u4 q5 u7 u9 q10 u12 u14 u16 u18 u20]; omega)).trans ?_
  refine (ap_l (by rw [ln8_10 cA h u2 u4 q5 u7 u9 q10 u12 u14 u16 u18 u20]; omega)).trans ?_
  refine (ap_l (by rw [ln8_9 cA h u2 u4 q5 u7 u9 q10 u12 u14 u16 u18 u20]; omega)).trans ?_
  refine (ap_l (by rw [ln8_8 cA h u2 u4 q5 u7 u9 q10 u12 u14 u16 u18 u20]; omega)).trans ?_
  refine (ap_l (by rw [ln8_7 cA h u2 u4 q5 u7 u9 q10 u12 u14 u16 u18 u20]; omega)).trans ?_
  refine (ap_l (by rw [ln8_6 cA h u2 u4 q5 u7 u9 q10 u12 u14 u16 u18 u20]; omega)).trans ?_
  refine (ap_l (by rw [ln8_5 cA h u2 u4 q5 u7 u9 q10 u12 u14 u16 u18 u20]; omega)).trans ?_
  refine (ap_l (by rw [ln8_4 cA h u2 u4 q5 u7 u9 q10 u12 u14 u16 u18 u20]; omega)).trans ?_
  refine (ap_r k (by rw [ln8_3 cA h u2 u4 q5 u7 u9 q10 u12 u14 u16 u18 u20])).trans ?_
  rfl
theorem c8_3 (cA : Nat → ClassId) (h : Nat) (u2 u4 : Nat → Nat) (q5 : Nat) (u7 u9 : Nat → Nat) (q10 : Nat) (u12 u14 u16 u18 u20 : Nat → Nat) : ∀ k, k < 1 → ([(q5, .inl (cA 3, 2, .inr (.inr (.inr (.inr (fun k => some (U8 h u2 u4 q5 u7 u9 q10 u12 u14 u16 u18 u20 (9 * (k + 1)))))))))] : va_W)[k]? = some (U8 h u2 u4 q5 u7 u9 q10 u12 u14 u16 u18 u20 (93), cellV (U8 h u2 u4 q5 u7 u9 q10 u12 u14 u16 u18 u20) cA (sh (93)) (M0 (93))) := fun k hk => by
  have e : k = 0 := by omega
  subst e
  rfl
theorem s8_4 (cA : Nat → ClassId) (h : Nat) (u2 u4 : Nat → Nat) (q5 : Nat) (u7 u9 : Nat → Nat) (q10 : Nat) (u12 u14 u16 u18 u20 : Nat → Nat) : ∀ k, k < 9 → (WS8 cA h u2 u4 q5 u7 u9 q10 u12 u14 u16 u18 u20)[76 + k]? = ((wX7 cA u7) : va_W)[k]? := fun k hk => by
  unfold WS8
  refine (ap_l (by rw [ln8_11 cA h u2 u4 q5 u7 u9 q10 u12 u14 u16 u18 u20]; omega)).trans ?_
  refine (ap_l (by rw [ln8_10 cA h u2 u4 q5 u7 u9 q10 u12 u14 u16 u18 u20]; omega)).trans ?_
  refine (ap_l (by rw [ln8_9 cA h u2 u4 q5 u7 u9 q10 u12 u14 u16 u18 u20]; omega)).trans ?_
  refine (ap_l (by rw [ln8_8 cA h u2 u4 q5 u7 u9 q10 u12 u14 u16 u18 u20]; omega)).trans ?_
  refine (ap_l (by rw [ln8_7 cA h u2 u4 q5 u7 u9 q10 u12 u14 u16 u18 u20]; omega)).trans ?_
  refine (ap_l (by rw [ln8_6 cA h u2 u4 q5 u7 u9 q10 u12 u14 u16 u18 u20]; omega)).trans ?_
  refine (ap_l (by rw [ln8_5 cA h u2 u4 q5 u7 u9 q10 u12 u14 u16 u18 u20]; omega)).trans ?_
  refine (ap_r k (by rw [ln8_4 cA h u2 u4 q5 u7 u9 q10 u12 u14 u16 u18 u20])).trans ?_
  rfl
theorem c8_4 (cA : Nat → ClassId) (h : Nat) (u2 u4 : Nat → Nat) (q5 : Nat) (u7 u9 : Nat → Nat) (q10 : Nat) (u12 u14 u16 u18 u20 : Nat → Nat) : ∀ k, k < 9 → ((wX7 cA u7) : va_W)[k]? = some (U8 h u2 u4 q5 u7 u9 q10 u12 u14 u16 u18 u20 (9 + k), cellV (U8 h u2 u4 q5 u7 u9 q10 u12 u14 u16 u18 u20) cA (sh (9 + k)) (M0 (9 + k))) := fun k hk => by
  rcases (show k = 0 ∨ k = 1 ∨ k = 2 ∨ k = 3 ∨ k = 4 ∨ k = 5 ∨ k = 6 ∨ k = 7 ∨ k = 8 by omega) with rfl | rfl | rfl | rfl | rfl | rfl | rfl | rfl | rfl
  · rfl
  · rfl
  · rfl
  · rfl
  · rfl
  · rfl
  · rfl
  · rfl
  · rfl
theorem s8_5 (cA : Nat → ClassId) (h : Nat) (u2 u4 : Nat → Nat) (q5 : Nat) (u7 u9 : Nat → Nat) (q10 : Nat) (u12 u14 u16 u18 u20 : Nat → Nat) : ∀ k, k < 9 → (WS8 cA h u2 u4 q5 u7 u9 q10 u12 u14 u16 u18 u20)[85 + k]? = ((wX7 cA u9) : va_W)[k]? := fun k hk => by
  unfold WS8
  refine (ap_l (by rw [ln8_11 cA h u2 u4 q5 u7 u9 q10 u12 u14 u16 u18 u20]; omega)).trans ?_
  refine (ap_l (by rw [ln8_10 cA h u2 u4 q5 u7 u9 q10 u12 u14 u16 u18 u20]; omega)).trans ?_
  refine (ap_l (by rw [ln8_9 cA h u2 u4 q5 u7 u9 q10 u12 u14 u16 u18 u20]; omega)).trans ?_
  refine (ap_l (by rw [ln8_8 cA h u2 u4 q5 u7 u9 q10 u12 u14 u16 u18 u20]; omega)).trans ?_
  refine (ap_l (by rw [ln8_7 cA h u2 u4 q5 u7 u9 q10 u12 u14 u16 u18 u20]; omega)).trans ?_
  refine (ap_l (by rw [ln8_6 cA h u2 u4 q5 u7 u9 q10 u12 u14 u16 u18 u20]; omega)).trans ?_
  refine (ap_r k (by rw [ln8_5 cA h u2 u4 q5 u7 u9 q10 u12 u14 u16 u18 u20])).trans ?_
  rfl
theorem c8_5 (cA : Nat → ClassId) (h : Nat) (u2 u4 : Nat → Nat) (q5 : Nat) (u7 u9 : Nat → Nat) (q10 : Nat) (u12 u14 u16 u18 u20 : Nat → Nat) : ∀ k, k < 9 → ((wX7 cA u9) : va_W)[k]? = some (U8 h u2 u4 q5 u7 u9 q10 u12 u14 u16 u18 u20 (18 + k), cellV (U8 h u2 u4 q5 u7 u9 q10 u12 u14 u16 u18 u20) cA (sh (18 + k)) (M0 (18 + k))) := fun k hk => by
  rcases (show k = 0 ∨ k = 1 ∨ k = 2 ∨ k = 3 ∨ k = 4 ∨ k = 5 ∨ k = 6 ∨ k = 7 ∨ k = 8 by omega) with rfl | rfl | rfl | rfl | rfl | rfl | rfl | rfl | rfl
  · rfl
  · rfl
  · rfl
  · rfl
  · rfl
  · rfl
  · rfl
  · rfl
  · rfl
theorem s8_6 (cA : Nat → ClassId) (h : Nat) (u2 u4 : Nat → Nat) (q5 : Nat) (u7 u9 : Nat → Nat) (q10 : Nat) (u12 u14 u16 u18 u20 : Nat → Nat) : ∀ k, k < 1 → (WS8 cA h u2 u4 q5 u7 u9 q10 u12 u14 u16 u18 u20)[94 + k]? = ([(q10, .inl (cA 2, 2, .inl (fun _ => zI 0)))] : va_W)[k]? := fun k hk => by
  unfold WS8
  refine (ap_l (by rw [ln8_11 cA h u2 u4 q5 u7 u9 q10 u12 u14 u16 u18 u20]; omega)).trans ?_
  refine (ap_l (by rw [ln8_10 cA h u2 u4 q5 u7 u9 q10 u12 u14 u16 u18 u20]; omega)).trans ?_
  refine (ap_l (by rw [ln8_9 cA h u2 u4 q5 u7 u9 q10 u12 u14 u16 u18 u20]; omega)).trans ?_
  refine (ap_l (by rw [ln8_8 cA h u2 u4 q5 u7 u9 q10 u12 u14 u16 u18 u20]; omega)).trans ?_
  refine (ap_l (by rw [ln8_7 cA h u2 u4 q5 u7 u9 q10 u12 u14 u16 u18 u20]; omega)).trans ?_
  refine (ap_r k (by rw [ln8_6 cA h u2 u4 q5 u7 u9 q10 u12 u14 u16 u18 u20])).trans ?_
  rfl
theorem c8_6 (cA : Nat → ClassId) (h : Nat) (u2 u4 : Nat → Nat) (q5 : Nat) (u7 u9 : Nat → Nat) (q10 : Nat) (u12 u14 u16 u18 u20 : Nat → Nat) : ∀ k, k < 1 → ([(q10, .inl (cA 2, 2, .inl (fun _ => zI 0)))] : va_W)[k]? = some (U8 h u2 u4 q5 u7 u9 q10 u12 u14 u16 u18 u20 (94), cellV (U8 h u2 u4 q5 u7 u9 q10 u12 u14 u16 u18 u20) cA (sh (94)) (M0 (94))) := fun k hk => by
  have e : k = 0 := by omega
  subst e
  rfl
theorem s8_7 (cA : Nat → ClassId) (h : Nat) (u2 u4 : Nat → Nat) (q5 : Nat) (u7 u9 : Nat → Nat) (q10 : Nat) (u12 u14 u16 u18 u20 : Nat → Nat) : ∀ k, k < 3 → (WS8 cA h u2 u4 q5 u7 u9 q10 u12 u14 u16 u18 u20)[95 + k]? = ((wX4 cA u12) : va_W)[k]? := fun k hk => by
  unfold WS8
  refine (ap_l (by rw [ln8_11 cA h u2 u4 q5 u7 u9 q10 u12 u14 u16 u18 u20]; omega)).trans ?_
  refine (ap_l (by rw [ln8_10 cA h u2 u4 q5 u7 u9 q10 u12 u14 u16 u18 u20]; omega)).trans ?_
  refine (ap_l (by rw [ln8_9 cA h u2 u4 q5 u7 u9 q10 u12 u14 u16 u18 u20]; omega)).trans ?_
  refine (ap_l (by rw [ln8_8 cA h u2 u4 q5 u7 u9 q10 u12 u14 u16 u18 u20]; omega)).trans ?_
  refine (ap_r k (by rw [ln8_7 cA h u2 u4 q5 u7 u9 q10 u12 u14 u16 u18 u20])).trans ?_
  rfl
theorem c8_7 (cA : Nat → ClassId) (h : Nat) (u2 u4 : Nat → Nat) (q5 : Nat) (u7 u9 : Nat → Nat) (q10 : Nat) (u12 u14 u16 u18 u20 : Nat → Nat) : ∀ k, k < 3 → ((wX4 cA u12) : va_W)[k]? = some (U8 h u2 u4 q5 u7 u9 q10 u12 u14 u16 u18 u20 (95 + k), cellV (U8 h u2 u4 q5 u7 u9 q10 u12 u14 u16 u18 u20) cA (sh (95 + k)) (M0 (95 + k))) := fun k hk => by
  rcases (show k = 0 ∨ k = 1 ∨ k = 2 by omega) with rfl | rfl | rfl
  · rfl
  · rfl
  · rfl
theorem s8_8 (cA : Nat → ClassId) (h : Nat) (u2 u4 : Nat → Nat) (q5 : Nat) (u7 u9 : Nat → Nat) (q10 : Nat) (u12 u14 u16 u18 u20 : Nat → Nat) : ∀ k, k < 2 → (WS8 cA h u2 u4 q5 u7 u9 q10 u12 u14 u16 u18 u20)[98 + k]? = ((wX3 cA u14) : va_W)[k]? := fun k hk => by
  unfold WS8
  refine (ap_l (by rw [ln8_11 cA h u2 u4 q5 u7 u9 q10 u12 u14 u16 u18 u20]; omega)).trans ?_
  refine (ap_l (by rw [ln8_10 cA h u2 u4 q5 u7 u9 q10 u12 u14 u16 u18 u20]; omega)).trans ?_
  refine (ap_l (by rw [ln8_9 cA h u2 u4 q5 u7 u9 q10 u12 u14 u16 u18 u20]; omega)).trans ?_
  refine (ap_r k (by rw [ln8_8 cA h u2 u4 q5 u7 u9 q10 u12 u14 u16 u18 u20])).trans ?_
  rfl
theorem c8_8 (cA : Nat → ClassId) (h : Nat) (u2 u4 : Nat → Nat) (q5 : Nat) (u7 u9 : Nat → Nat) (q10 : Nat) (u12 u14 u16 u18 u20 : Nat → Nat) : ∀ k, k < 2 → ((wX3 cA u14) : va_W)[k]? = some (U8 h u2 u4 q5 u7 u9 q10 u12 u14 u16 u18 u20 (98 + k), cellV (U8 h u2 u4 q5 u7 u9 q10 u12 u14 u16 u18 u20) cA (sh (98 + k)) (M0 (98 + k))) := fun k hk => by
  rcases (show k = 0 ∨ k = 1 by omega) with rfl | rfl
  · rfl
  · rfl
theorem s8_9 (cA : Nat → ClassId) (h : Nat) (u2 u4 : Nat → Nat) (q5 : Nat) (u7 u9 : Nat → Nat) (q10 : Nat) (u12 u14 u16 u18 u20 : Nat → Nat) : ∀ k, k < 3 → (WS8 cA h u2 u4 q5 u7 u9 q10 u12 u14 u16 u18 u20)[100 + k]? = ((wX0 cA u16) : va_W)[k]? := fun k hk => by
  unfold WS8
  refine (ap_l (by rw [ln8_11 cA h u2 u4 q5 u7 u9 q10 u12 u14 u16 u18 u20]; omega)).trans ?_
  refine (ap_l (by rw [ln8_10 cA h u2 u4 q5 u7 u9 q10 u12 u14 u16 u18 u20]; omega)).trans ?_
  refine (ap_r k (by rw [ln8_9 cA h u2 u4 q5 u7 u9 q10 u12 u14 u16 u18 u20])).trans ?_
  rfl
theorem c8_9 (cA : Nat → ClassId) (h : Nat) (u2 u4 : Nat → Nat) (q5 : Nat) (u7 u9 : Nat → Nat) (q10 : Nat) (u12 u14 u16 u18 u20 : Nat → Nat) : ∀ k, k < 3 → ((wX0 cA u16) : va_W)[k]? = some (U8 h u2 u4 q5 u7 u9 q10 u12 u14 u16 u18 u20 (100 + k), cellV (U8 h u2 u4 q5 u7 u9 q10 u12 u14 u16 u18 u20) cA (sh (100 + k)) (M0 (100 + k))) := fun k hk => by
  rcases (show k = 0 ∨ k = 1 ∨ k = 2 by omega) with rfl | rfl | rfl
  · rfl
  · rfl
  · rfl
theorem s8_10 (cA : Nat → ClassId) (h : Nat) (u2 u4 : Nat → Nat) (q5 : Nat) (u7 u9 : Nat → Nat) (q10 : Nat) (u12 u14 u16 u18 u20 : Nat → Nat) : ∀ k, k < 1 → (WS8 cA h u2 u4 q5 u7 u9 q10 u12 u14 u16 u18 u20)[103 + k]? = ((wX1 cA u18) : va_W)[k]? := fun k hk => by
  unfold WS8
  refine (ap_l (by rw [ln8_11 cA h u2 u4 q5 u7 u9 q10 u12 u14 u16 u18 u20]; omega)).trans ?_
  refine (ap_r k (by rw [ln8_10 cA h u2 u4 q5 u7 u9 q10 u12 u14 u16 u18 u20])).trans ?_
  rfl
theorem c8_10 (cA : Nat → ClassId) (h : Nat) (u2 u4 : Nat → Nat) (q5 : Nat) (u7 u9 : Nat → Nat) (q10 : Nat) (u12 u14 u16 u18 u20 : Nat → Nat) : ∀ k, k < 1 → ((wX1 cA u18) : va_W)[k]? = some (U8 h u2 u4 q5 u7 u9 q10 u12 u14 u16 u18 u20 (103), cellV (U8 h u2 u4 q5 u7 u9 q10 u12 u14 u16 u18 u20) cA (sh (103)) (M0 (103))) := fun k hk => by
  have e : k = 0 := by omega
  subst e
  rfl
theorem s8_11 (cA : Nat → ClassId) (h : Nat) (u2 u4 : Nat → Nat) (q5 : Nat) (u7 u9 : Nat → Nat) (q10 : Nat) (u12 u14 u16 u18 u20 : Nat → Nat) : ∀ k, k < 1 → (WS8 cA h u2 u4 q5 u7 u9 q10 u12 u14 u16 u18 u20)[104 + k]? = ((wX1 cA u20) : va_W)[k]? := fun k hk => by
  unfold WS8
  refine (ap_r k (by rw [ln8_11 cA h u2 u4 q5 u7 u9 q10 u12 u14 u16 u18 u20])).trans ?_
  rfl
theorem c8_11 (cA : Nat → ClassId) (h : Nat) (u2 u4 : Nat → Nat) (q5 : Nat) (u7 u9 : Nat → Nat) (q10 : Nat) (u12 u14 u16 u18 u20 : Nat → Nat) : ∀ k, k < 1 → ((wX1 cA u20) : va_W)[k]? = some (U8 h u2 u4 q5 u7 u9 q10 u12 u14 u16 u18 u20 (104), cellV (U8 h u2 u4 q5 u7 u9 q10 u12 u14 u16 u18 u20) cA (sh (104)) (M0 (104))) := fun k hk => by
  have e : k = 0 := by omega
  subst e
  rfl
theorem at8 (cA : Nat → ClassId) (h : Nat) (u2 u4 : Nat → Nat) (q5 : Nat) (u7 u9 : Nat → Nat) (q10 : Nat) (u12 u14 u16 u18 u20 : Nat → Nat) (i : Nat) (hi : i < 105) : (WS8 cA h u2 u4 q5 u7 u9 q10 u12 u14 u16 u18 u20)[pl8 i]? = some (U8 h u2 u4 q5 u7 u9 q10 u12 u14 u16 u18 u20 i, cellV (U8 h u2 u4 q5 u7 u9 q10 u12 u14 u16 u18 u20) cA (sh i) (M0 i)) := by
  by_cases b0 : i < 9
  · rw [show pl8 i = 1 + i by unfold pl8; (repeat' split) <;> omega, s8_1 cA h u2 u4 q5 u7 u9 q10 u12 u14 u16 u18 u20 i (by omega)]
    exact c8_1 cA h u2 u4 q5 u7 u9 q10 u12 u14 u16 u18 u20 i (by omega)
  by_cases b1 : i < 18
  · obtain ⟨k, e⟩ : ∃ k, i = 9 + k := ⟨i - 9, by omega⟩
    subst e
    rw [show pl8 (9 + k) = 76 + k by unfold pl8; (repeat' split) <;> omega, s8_4 cA h u2 u4 q5 u7 u9 q10 u12 u14 u16 u18 u20 k (by omega)]
    exact c8_4 cA h u2 u4 q5 u7 u9 q10 u12 u14 u16 u18 u20 k (by omega)
  by_cases b2 : i < 27
  · obtain ⟨k, e⟩ : ∃ k, i = 18 + k := ⟨i - 18, by omega⟩
    subst e
    rw [show pl8 (18 + k) = 85 + k by unfold pl8; (repeat' split) <;> omega, s8_5 cA h u2 u4 q5 u7 u9 q10 u12 u14 u16 u18 u20 k (by omega)]
    exact c8_5 cA h u2 u4 q5 u7 u9 q10 u12 u14 u16 u18 u20 k (by omega)
  by_cases b3 : i < 90
  · obtain ⟨k, e⟩ : ∃ k, i = 27 + k := ⟨i - 27, by omega⟩
    subst e
    rw [show pl8 (27 + k) = 12 + k by unfold pl8; (repeat' split) <;> omega, s8_2b cA h u2 u4 q5 u7 u9 q10 u12 u14 u16 u18 u20 k (by omega)]
    exact c8_2b cA h u2 u4 q5 u7 u9 q10 u12 u14 u16 u18 u20 k (by omega)
  by_cases b4 : i = 90
  · subst b4
    exact (s8_0 cA h u2 u4 q5 u7 u9 q10 u12 u14 u16 u18 u20 0 (by omega)).trans (c8_0 cA h u2 u4 q5 u7 u9 q10 u12 u14 u16 u18 u20 0 (by omega))
  by_cases b5 : i < 93
  · obtain ⟨k, e⟩ : ∃ k, i = 91 + k := ⟨i - 91, by omega⟩
    subst e
    rw [show pl8 (91 + k) = 10 + k by unfold pl8; (repeat' split) <;> omega, s8_2 cA h u2 u4 q5 u7 u9 q10 u12 u14 u16 u18 u20 k (by omega)]
    exact c8_2 cA h u2 u4 q5 u7 u9 q10 u12 u14 u16 u18 u20 k (by omega)
  by_cases b6 : i = 93
  · subst b6
    exact (s8_3 cA h u2 u4 q5 u7 u9 q10 u12 u14 u16 u18 u20 0 (by omega)).trans (c8_3 cA h u2 u4 q5 u7 u9 q10 u12 u14 u16 u18 u20 0 (by omega))
  by_cases b7 : i = 94
  · subst b7
    exact (s8_6 cA h u2 u4 q5 u7 u9 q10 u12 u14 u16 u18 u20 0 (by omega)).trans (c8_6 cA h u2 u4 q5 u7 u9 q10 u12 u14 u16 u18 u20 0 (by omega))
  by_cases b8 : i < 98
  · obtain ⟨k, e⟩ : ∃ k, i = 95 + k := ⟨i - 95, by omega⟩
    subst e
    rw [show pl8 (95 + k) = 95 + k by unfold pl8; (repeat' split) <;> omega, s8_7 cA h u2 u4 q5 u7 u9 q10 u12 u14 u16 u18 u20 k (by omega)]
    exact c8_7 cA h u2 u4 q5 u7 u9 q10 u12 u14 u16 u18 u20 k (by omega)
  by_cases b9 : i < 100
  · obtain ⟨k, e⟩ : ∃ k, i = 98 + k := ⟨i - 98, by omega⟩
    subst e
    rw [show pl8 (98 + k) = 98 + k by unfold pl8; (repeat' split) <;> omega, s8_8 cA h u2 u4 q5 u7 u9 q10 u12 u14 u16 u18 u20 k (by omega)]
    exact c8_8 cA h u2 u4 q5 u7 u9 q10 u12 u14 u16 u18 u20 k (by omega)
  by_cases b10 : i < 103
  · obtain ⟨k, e⟩ : ∃ k, i = 100 + k := ⟨i - 100, by omega⟩
    subst e
    rw [show pl8 (100 + k) = 100 + k by unfold pl8; (repeat' split) <;> omega, s8_9 cA h u2 u4 q5 u7 u9 q10 u12 u14 u16 u18 u20 k (by omega)]
    exact c8_9 cA h u2 u4 q5 u7 u9 q10 u12 u14 u16 u18 u20 k (by omega)
  by_cases b11 : i = 103
  · subst b11
    exact (s8_10 cA h u2 u4 q5 u7 u9 q10 u12 u14 u16 u18 u20 0 (by omega)).trans (c8_10 cA h u2 u4 q5 u7 u9 q10 u12 u14 u16 u18 u20 0 (by omega))
  by_cases b12 : i = 104
  · subst b12
    exact (s8_11 cA h u2 u4 q5 u7 u9 q10 u12 u14 u16 u18 u20 0 (by omega)).trans (c8_11 cA h u2 u4 q5 u7 u9 q10 u12 u14 u16 u18 u20 0 (by omega))
  omega
theorem hs8 (cA : Nat → ClassId) (h : Nat) (u2 u4 : Nat → Nat) (q5 : Nat) (u7 u9 : Nat → Nat) (q10 : Nat) (u12 u14 u16 u18 u20 : Nat → Nat) : ((List.range 105).map pl8).map (fun i => (WS8 cA h u2 u4 q5 u7 u9 q10 u12 u14 u16 u18 u20)[i]?) = (wX8 cA (U8 h u2 u4 q5 u7 u9 q10 u12 u14 u16 u18 u20)).map some := by
  unfold wX8 wldn
  rw [List.map_map, List.map_map]
  refine List.map_congr_left (fun i hi => ?_)
  exact at8 cA h u2 u4 q5 u7 u9 q10 u12 u14 u16 u18 u20 i (List.mem_range.mp hi)
theorem nd8 : va_nd ((List.range 105).map pl8) = true := by decide +kernel
