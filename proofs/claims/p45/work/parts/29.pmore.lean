theorem zL_andl {x y : Int32} {a b : Int} (h : zB x a b) (h0 : 0 ≤ a) : (x &&& y).toInt ≤ x.toInt := (zB_andl (b := x.toInt) (a := x.toInt) ⟨Int.le_refl _, Int.le_refl _⟩ (Int.le_trans h0 h.1)).2
theorem zL_andr {x y : Int32} {a b : Int} (h : zB y a b) (h0 : 0 ≤ a) : (x &&& y).toInt ≤ y.toInt := (zB_andr (b := y.toInt) (a := y.toInt) ⟨Int.le_refl _, Int.le_refl _⟩ (Int.le_trans h0 h.1)).2
theorem zL_orl {x y : Int32} {a b c d : Int} (h : zB x a b) (g : zB y c d) (h1 : 0 ≤ a) (h2 : 0 ≤ c) : x.toInt ≤ (x ||| y).toInt := by
  have p1 := h.1; have p3 := g.1
  have t1 := Int32.toInt_lt x; have t2 := Int32.toInt_lt y
  exact (zB_or 31 (x := x) (y := y) (a := x.toInt) (b := x.toInt) (c := 0) (d := y.toInt) (a' := x.toInt) (b' := 2 ^ 31 - 1) ⟨Int.le_refl _, Int.le_refl _⟩ ⟨by omega, Int.le_refl _⟩ (by omega) (by omega) (by omega) (by omega) (by decide) (Or.inl (Int.le_refl _)) (by decide)).1
theorem zL_remlt {x y : Int32} {a b c d : Int} (h : zB x a b) (g : zB y c d) (h0 : 0 ≤ a ∧ 1 ≤ c) : (x - x / y * y).toInt < y.toInt := by
  have p1 := h.1; have p3 := g.1
  rw [zremI (by omega) (by omega)]
  exact Int.emod_lt_of_pos _ (by omega)
theorem zL_mulle {x y : Int32} {a b c d : Int} (h : zB x a b) (g : zB y c d) (h0 : 0 ≤ a ∧ 0 ≤ c ∧ b * d ≤ 2147483647) : 0 ≤ (x * y).toInt ∧ (x * y).toInt ≤ x.toInt * d := by
  have p1 := h.1; have p2 := h.2; have p3 := g.1; have p4 := g.2
  have q1 : 0 ≤ x.toInt * y.toInt := Int.mul_nonneg (by omega) (by omega)
  have q2 : x.toInt * y.toInt ≤ b * d := Int.mul_le_mul p2 p4 (by omega) (by omega)
  have q3 : x.toInt * y.toInt ≤ x.toInt * d := Int.mul_le_mul_of_nonneg_left p4 (by omega)
  rw [Int32.toInt_mul, zbm (by omega) (by omega)]
  exact ⟨q1, q3⟩
theorem zsp_5 {x : Int32} (h : zB x 0 4) : x = 0 ∨ x = 1 ∨ x = 2 ∨ x = 3 ∨ x = 4 := by
  obtain ⟨k, rfl, e, q1, q2⟩ := zB_nat h (by decide)
  rcases (show k = 0 ∨ k = 1 ∨ k = 2 ∨ k = 3 ∨ k = 4 by omega) with rfl | rfl | rfl | rfl | rfl <;> decide
/-- what later answers -/
def zlat (ti by_ r ti' : Int32) : Prop := (0 ≤ by_.toInt ∧ by_.toInt ≤ 1000 ∧ ti.toInt + by_.toInt ≤ 100000 → r.toInt = ti.toInt + by_.toInt ∧ ti'.toInt = ti.toInt + by_.toInt) ∧ (¬ (0 ≤ by_.toInt ∧ by_.toInt ≤ 1000 ∧ ti.toInt + by_.toInt ≤ 100000) → r.toInt = -1 ∧ ti'.toInt = ti.toInt)
