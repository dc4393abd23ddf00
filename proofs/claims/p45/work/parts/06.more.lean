/-! equations of numbers -/
theorem zne {x y : Int32} (h : ¬ x = y) : x.toInt ≠ y.toInt := fun q => h (Int32.toInt_inj.mp q)
theorem zB_bk {x y : Int32} {n a b c d : Int} (h : zB y c d) (r : y.toInt = x.toInt + n) (e1 : a + n ≤ c) (e2 : d ≤ b + n) : zB x a b := by
  have := h.1; have := h.2
  exact ⟨by omega, by omega⟩
theorem zL_add {x y : Int32} {a b c d p q : Int} (h : zB x a b) (k : zB y c d) (h1 : -2147483648 ≤ a + c) (h2 : b + d ≤ 2147483647) (ex : x.toInt = p) (ey : y.toInt = q) : (x + y).toInt = p + q := by
  have := h.1; have := h.2; have := k.1; have := k.2
  rw [Int32.toInt_add, zbm (by omega) (by omega), ex, ey]
theorem zL_sub {x y : Int32} {a b c d p q : Int} (h : zB x a b) (k : zB y c d) (h1 : -2147483648 ≤ a - d) (h2 : b - c ≤ 2147483647) (ex : x.toInt = p) (ey : y.toInt = q) : (x - y).toInt = p - q := by
  have := h.1; have := h.2; have := k.1; have := k.2
  rw [Int32.toInt_sub, zbm (by omega) (by omega), ex, ey]
theorem zL_mul {x y : Int32} {a b c d p q : Int} (h : zB x a b) (k : zB y c d) (h1 : 0 ≤ a) (h2 : 0 ≤ c) (h3 : b * d ≤ 2147483647) (ex : x.toInt = p) (ey : y.toInt = q) : (x * y).toInt = p * q := by
  have p1 := h.1; have p2 := h.2; have p3 := k.1; have p4 := k.2
  have q1 : 0 ≤ x.toInt * y.toInt := Int.mul_nonneg (by omega) (by omega)
  have q2 : x.toInt * y.toInt ≤ b * d := Int.mul_le_mul p2 p4 (by omega) (by omega)
  rw [Int32.toInt_mul, zbm (by omega) (by omega), ex, ey]
theorem zL_rem {x y : Int32} {a b q : Int} (h : zB x a b) (h0 : 0 ≤ a ∧ 1 ≤ q) (ey : y.toInt = q) : (x - x / y * y).toInt = x.toInt % q := by
  have p1 := h.1
  rw [zremI (by omega) (by omega), ey]
theorem zL_div {x y : Int32} {a b q : Int} (h : zB x a b) (h0 : 0 ≤ a ∧ 1 ≤ q) (ey : y.toInt = q) : (x / y).toInt = x.toInt / q := by
  have p1 := h.1
  have p5 := Int32.toInt_lt x
  have q1 : 0 ≤ x.toInt / y.toInt := Int.ediv_nonneg (by omega) (by omega)
  have q2 : x.toInt / y.toInt ≤ x.toInt := Int.ediv_le_self _ (by omega)
  rw [Int32.toInt_div, Int.tdiv_eq_ediv_of_nonneg (by omega), zbm (by omega) (by omega), ey]
section ZZ3
variable {p : Program} {l : Launch} {e : Env} {R : Room} {s : State} {m : MethodId} {args : Array Value} {below : List Frame} {meth : Method} {c : Code} {H : Heap} {locs : List Loc} {cells slots : Nat} {Q : State → Prop} {pc : Nat} {ls : Array Slot} {rest : List Value}
theorem zi_top3 {x : Int32} {a b : Int} {P : Int32 → Prop} (h : zB x a b) (hp : P x) (k : ∀ y : Int32, y = x → zB y a b → P y → W p l e R s m args below meth c H locs cells slots Q (F0 m pc ls (.int y :: rest))) : W p l e R s m args below meth c H locs cells slots Q (F0 m pc ls (.int x :: rest)) := k x rfl h hp
end ZZ3
