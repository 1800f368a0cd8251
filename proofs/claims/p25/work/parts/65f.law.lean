set_option maxRecDepth 100000 in
set_option maxHeartbeats 4000000 in
theorem c_L_same (l : Launch) (D : va_G) {ad : Nat → Nat} (cA : Nat → ClassId) (had : adok ad) (M : Mem) (x : Int) (hx : -2147483648 ≤ x ∧ x ≤ 2147483647) (hR : RLL M) : CtI l yL_same wsL_same 6 133 D ad cA [.ref (ad 90), .int (zI x), .ref (ad 105), .ref (ad 106), .ref (ad 107), .ref (ad 108), .ref (ad 109)] M (fun z M1 => z = 1 ∧ eqx M M1 E9) := by
  refine CtI.of (cc := cL_same) (maxL := 17) (ret := (some .boolean)) had (by decide) rfl (Nat.le_of_ble_eq_true rfl) ?_
  intro p e s m args below meth c X hm
  show VV p l e { frames := 6, cells := 0, slots := 0, locals := 133 } s m args below meth c 17 D ad cA (Afr ad s.heap.size) 0 0 (QI below args s D ad cA (fun z M1 => z = 1 ∧ eqx M M1 E9)) M 0 [(0, .ref (ad 90)), (1, .int (zI x)), (2, .ref (ad 105)), (3, .ref (ad 106)), (4, .ref (ad 107)), (5, .ref (ad 108)), (6, .ref (ad 109))] []
  refine same_A X hm M hR (fun N130 a7 a8 h130 e7 e8 => ?_)
  refine same_B X hm M N130 hR h130 e7 (fun N372 h372 => ?_)
  refine same_C X hm M N372 hR h372 e7 e8 (fun N527 h527 => ?_)
  exact same_D X hm hx M N527 hR h527
