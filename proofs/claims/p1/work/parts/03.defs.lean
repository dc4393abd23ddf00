/-- the fields of a Plan without rooms -/
def PF (p : Nat → Nat) (su : Nat) : List Value := [.int 0, .ref (p 1), .ref (p 2), .int 0, .ref (p 4), .ref (p 5), .int 0, .ref (p 7), .ref (p 8), .ref (p 9), .ref (p 10), .ref (p 11), .ref (p 12), .ref su, .int 0, .int 0]
/-- the fields of the reference -/
def MF (ad : Nat → Nat) (v2 : Int32) (v3 : Int32) (v4 : Int32) (v5 : Int32) (v6 : Int32) (v7 : Int32) (v8 : Int32) (v9 : Int32) (v10 : Int64) (v35 : Int32) (v36 : Int32) (v37 : Int32) (v38 : Int32) (v39 : Int32) (v40 : Int32) (v41 : Int32) (v46 : Int32) (v47 : Int32) (v51 : Int32) (v67 : Int32) (v68 : Int32) : List Value := [.ref (ad 0), .ref (ad 1), .int v2, .int v3, .int v4, .int v5, .int v6, .int v7, .int v8, .int v9, .long v10, .ref (ad 11), .ref (ad 12), .ref (ad 13), .ref (ad 14), .ref (ad 15), .ref (ad 16), .ref (ad 17), .ref (ad 18), .ref (ad 19), .ref (ad 20), .ref (ad 21), .ref (ad 22), .ref (ad 23), .ref (ad 24), .ref (ad 25), .ref (ad 26), .ref (ad 27), .ref (ad 28), .ref (ad 29), .ref (ad 30), .ref (ad 31), .ref (ad 32), .ref (ad 33), .ref (ad 34), .int v35, .int v36, .int v37, .int v38, .int v39, .int v40, .int v41, .ref (ad 42), .ref (ad 43), .ref (ad 44), .ref (ad 45), .int v46, .int v47, .ref (ad 48), .ref (ad 49), .ref (ad 50), .int v51, .ref (ad 52), .ref (ad 53), .ref (ad 54), .ref (ad 55), .ref (ad 56), .ref (ad 57), .ref (ad 58), .ref (ad 59), .ref (ad 60), .ref (ad 61), .ref (ad 62), .ref (ad 63), .ref (ad 64), .ref (ad 65), .ref (ad 66), .int v67, .int v68, .ref (ad 69), .ref (ad 70)]
theorem zz_pin0 {x : Int32} (h1 : ¬ x < 0) (h2 : x < 1) : x = 0 := by
  rw [Int32.lt_iff_toInt_lt] at h1 h2
  have e0 : (0 : Int32).toInt = 0 := by decide
  have e1 : (1 : Int32).toInt = 1 := by decide
  exact Int32.toInt_inj.mp (by omega)
theorem zz_ngt {x a b : Int32} (h : ¬ x < a) (e : a.toInt = b.toInt + 1) : b < x := by
  rw [Int32.lt_iff_toInt_lt] at h ⊢; omega
theorem zz_ltle {x a b : Int32} (h : x < a) (e : a.toInt = b.toInt + 1) : x ≤ b := by
  rw [Int32.lt_iff_toInt_lt] at h
  rw [Int32.le_iff_toInt_le]; omega
theorem sp_rng_ne2 {x : Int32} (h0 : ¬ x = 0) (h1 : ¬ x = 1) : sp_rng 1 x = -1 := by
  by_cases a : x < 0
  · exact sp_rng_lt a
  · by_cases b : 1 < x
    · exact sp_rng_gt a b
    · exfalso
      rw [Int32.lt_iff_toInt_lt] at a b
      have e0 : (0 : Int32).toInt = 0 := by decide
      have e1 : (1 : Int32).toInt = 1 := by decide
      rcases (show x.toInt = 0 ∨ x.toInt = 1 by omega) with h | h
      · exact h0 (Int32.toInt_inj.mp (by omega))
      · exact h1 (Int32.toInt_inj.mp (by omega))
