/-! what the contracts are stated with -/
def xr (D : va_G) (tys : List (ClassId × FieldType)) (ws : va_W) (av : List Value) : Array Value → State → Prop := va_Pc av (fun U => va_P D classes ws U.heap ∧ va_K D classes tys U)
theorem xr_blind {D : va_G} {tys : List (ClassId × FieldType)} {ws : va_W} {av : List Value} : FrameBlind (xr D tys ws av) := fun a U g mk q => by
  obtain ⟨q0, qP, qK⟩ := q
  exact ⟨q0, qP, va_K.moved (u := U) (U := U.calling g mk a) (Vm.Alike.refl U.vm) qK⟩
theorem xr_mk {D : va_G} {tys : List (ClassId × FieldType)} {ws : va_W} {av : List Value} {s U : State} {H : Heap} (hU : U.heap = H) (hW : s.WarmedH U.vm) (hP : va_P D classes ws H) (hK : va_K D classes tys s) : xr D tys ws av av.toArray U := ⟨rfl, by rw [hU]; exact hP, va_K.moved hW.alike hK⟩
abbrev xNs : Type := List (String × Nat × MethodName × String)
def xNw (ns : xNs) (U : State) : Prop := ∀ q ∈ ns, va_Nw (.methodLinkNest q.1 q.2.1 q.2.2.1 q.2.2.2) U
def xp (D : va_G) (tys : List (ClassId × FieldType)) (ws : va_W) (sz : Nat) (ns : xNs) (av : List Value) : Array Value → State → Prop := va_Pc av (fun U => U.heap.size = sz ∧ va_P D classes ws U.heap ∧ va_K D classes tys U ∧ va_D (fun _ => True) ws ∧ xNw ns U)
theorem xp_blind {D : va_G} {tys : List (ClassId × FieldType)} {ws : va_W} {sz : Nat} {ns : xNs} {av : List Value} : FrameBlind (xp D tys ws sz ns av) := fun a U g mk q => by
  obtain ⟨q0, q1, qP, qK, qD, qN⟩ := q
  exact ⟨q0, q1, qP, va_K.moved (u := U) (U := U.calling g mk a) (Vm.Alike.refl U.vm) qK, qD, fun q hq => va_Nw.same rfl rfl (qN q hq)⟩
theorem xp_mk {D : va_G} {tys : List (ClassId × FieldType)} {ws : va_W} {ns : xNs} {av : List Value} {s U : State} {H : Heap} {A : Nat → Prop} (hU : U.heap = H) (hW : s.WarmedH U.vm) (hP : va_P D classes ws H) (hK : va_K D classes tys s) (hD : va_D A ws) (hN : xNw ns s) : xp D tys ws H.size ns av av.toArray U := ⟨rfl, by rw [hU], by rw [hU]; exact hP, va_K.moved hW.alike hK, hD.weaken (fun _ _ _ _ => trivial), fun q hq => va_Nw.warmM hW (hN q hq)⟩
theorem xNw_nil {U : State} : xNw [] U := fun _ h => by cases h
abbrev xB (D : va_G) (A : Nat → Prop) (ws : va_W) (t : State) : Prop := va_P D classes ws t.heap ∧ va_D A ws
/-! numbers between two bounds -/
def zB (x : Int32) (a b : Int) : Prop := a ≤ x.toInt ∧ x.toInt ≤ b
def zA (f : Nat → Int32) (i n : Nat) (a b : Int) : Prop := ∀ j, i ≤ j → j < n → zB (f j) a b
theorem zB_top (x : Int32) : zB x (-2147483648) 2147483647 := by
  have h1 := Int32.le_toInt x
  have h2 := Int32.toInt_lt x
  exact ⟨by omega, by omega⟩
theorem zB_w {x : Int32} {a b a' b' : Int} (h : zB x a b) (h1 : a' ≤ a) (h2 : b ≤ b') : zB x a' b' := ⟨Int.le_trans h1 h.1, Int.le_trans h.2 h2⟩
theorem zB_no {P : Prop} {x : Int32} {a b : Int} (h : zB x a b) (e : b < a) : P := by have := h.1; have := h.2; omega
theorem zB_out {P : Prop} {x : Int32} {a b : Int} (h : zB x a b) (e : ¬ (a ≤ x.toInt ∧ x.toInt ≤ b)) : P := absurd h e
theorem zB_meet {x : Int32} {a b c d a' b' : Int} (h : zB x a b) (k : zB x c d) (e1 : a' ≤ a ∨ a' ≤ c) (e2 : b ≤ b' ∨ d ≤ b') : zB x a' b' := by
  have := h.1; have := h.2; have := k.1; have := k.2
  exact ⟨by omega, by omega⟩
theorem zl {x y : Int32} (h : x < y) : x.toInt < y.toInt := Int32.lt_iff_toInt_lt.mp h
theorem zg {x y : Int32} (h : ¬ x < y) : y.toInt ≤ x.toInt := by rw [Int32.lt_iff_toInt_lt] at h; omega
theorem ze {x y : Int32} (h : x ≤ y) : x.toInt ≤ y.toInt := Int32.le_iff_toInt_le.mp h
theorem zf {x y : Int32} (h : ¬ x ≤ y) : y.toInt < x.toInt := by rw [Int32.le_iff_toInt_le] at h; omega
theorem zn {x k : Int32} {n : Int} (h : ¬ x = k) (e : k.toInt = n) : x.toInt ≠ n := fun q => h (Int32.toInt_inj.mp (q.trans e.symm))
theorem zB_ltu {x y : Int32} {a b c d b' : Int} (q : x.toInt < y.toInt) (h : zB x a b) (k : zB y c d) (e : d ≤ b' + 1) : zB x a b' := by
  have := h.1; have := k.2
  exact ⟨by omega, by omega⟩
theorem zB_ltv {x y : Int32} {a b c d c' : Int} (q : x.toInt < y.toInt) (h : zB x a b) (k : zB y c d) (e : c' ≤ a + 1) : zB y c' d := by
  have := h.1; have := k.2
  exact ⟨by omega, by omega⟩
theorem zB_leu {x y : Int32} {a b c d b' : Int} (q : x.toInt ≤ y.toInt) (h : zB x a b) (k : zB y c d) (e : d ≤ b') : zB x a b' := by
  have := h.1; have := k.2
  exact ⟨by omega, by omega⟩
theorem zB_lev {x y : Int32} {a b c d c' : Int} (q : x.toInt ≤ y.toInt) (h : zB x a b) (k : zB y c d) (e : c' ≤ a) : zB y c' d := by
  have := h.1; have := k.2
  exact ⟨by omega, by omega⟩
theorem zB_eq {x y : Int32} {a b c d a' b' : Int} (q : x = y) (h : zB x a b) (k : zB y c d) (e1 : a' ≤ a ∨ a' ≤ c) (e2 : b ≤ b' ∨ d ≤ b') : zB x a' b' := by
  subst q; exact zB_meet h k e1 e2
theorem zB_neL {x y : Int32} {a b c d a' : Int} (q : ¬ x = y) (h : zB x a b) (k : zB y c d) (e : c = a ∧ d = a ∧ a' = a + 1) : zB x a' b := by
  have := h.1; have := h.2; have := k.1; have := k.2
  have : x.toInt ≠ y.toInt := fun z => q (Int32.toInt_inj.mp z)
  exact ⟨by omega, by omega⟩
theorem zB_neH {x y : Int32} {a b c d b' : Int} (q : ¬ x = y) (h : zB x a b) (k : zB y c d) (e : c = b ∧ d = b ∧ b' = b - 1) : zB x a b' := by
  have := h.1; have := h.2; have := k.1; have := k.2
  have : x.toInt ≠ y.toInt := fun z => q (Int32.toInt_inj.mp z)
  exact ⟨by omega, by omega⟩
theorem zB_ne0 {P : Prop} {x y : Int32} {a : Int} (q : ¬ x = y) (h : zB x a a) (k : zB y a a) : P := by
  have := h.1; have := h.2; have := k.1; have := k.2
  have : x.toInt ≠ y.toInt := fun z => q (Int32.toInt_inj.mp z)
  omega
theorem zB_neq {P : Prop} {x k : Int32} {a b : Int} (q : x = k) (h : zB x a b) (e : ¬ (a ≤ k.toInt ∧ k.toInt ≤ b)) : P := by
  subst q; exact absurd h e
theorem zB_nz {x : Int32} {a b : Int} (h : zB x a b) (e : 0 < a ∨ b < 0) : ¬ x = 0 := by
  intro q; subst q
  have := h.1; have := h.2
  have : (0 : Int32).toInt = 0 := by decide
  omega
theorem zB_01 {x : Int32} (h : zB x 0 1) : x = 0 ∨ x = 1 := by
  have := h.1; have := h.2
  have e0 : (0 : Int32).toInt = 0 := by decide
  have e1 : (1 : Int32).toInt = 1 := by decide
  rcases (show x.toInt = 0 ∨ x.toInt = 1 by omega) with q | q
  · exact Or.inl (Int32.toInt_inj.mp (q.trans e0.symm))
  · exact Or.inr (Int32.toInt_inj.mp (q.trans e1.symm))
theorem zbm {x : Int} (h1 : -2147483648 ≤ x) (h2 : x ≤ 2147483647) : x.bmod (2 ^ 32) = x := by
  rw [Int.bmod_def]
  have e : ((2 ^ 32 : Nat) : Int) = 4294967296 := by decide
  rw [e]
  split <;> omega
theorem zB_add {x y : Int32} {a b c d a' b' : Int} (h : zB x a b) (k : zB y c d) (h1 : -2147483648 ≤ a + c) (h2 : b + d ≤ 2147483647) (e1 : a' ≤ a + c) (e2 : b + d ≤ b') : zB (x + y) a' b' := by
  have := h.1; have := h.2; have := k.1; have := k.2
  unfold zB
  rw [Int32.toInt_add, zbm (by omega) (by omega)]
  exact ⟨by omega, by omega⟩
theorem zB_sub {x y : Int32} {a b c d a' b' : Int} (h : zB x a b) (k : zB y c d) (h1 : -2147483648 ≤ a - d) (h2 : b - c ≤ 2147483647) (e1 : a' ≤ a - d) (e2 : b - c ≤ b') : zB (x - y) a' b' := by
  have := h.1; have := h.2; have := k.1; have := k.2
  unfold zB
  rw [Int32.toInt_sub, zbm (by omega) (by omega)]
  exact ⟨by omega, by omega⟩
theorem zR_addc {x k : Int32} {n a b : Int} (h : zB x a b) (e : k.toInt = n) (h1 : -2147483648 ≤ a + n) (h2 : b + n ≤ 2147483647) : (x + k).toInt = x.toInt + n := by
  have := h.1; have := h.2
  rw [Int32.toInt_add, e, zbm (by omega) (by omega)]
theorem zR_subc {x k : Int32} {n a b : Int} (h : zB x a b) (e : k.toInt = -n) (h1 : -2147483648 ≤ a + n) (h2 : b + n ≤ 2147483647) : (x - k).toInt = x.toInt + n := by
  have := h.1; have := h.2
  rw [Int32.toInt_sub, e, zbm (by omega) (by omega)]; omega
theorem zB_mul {x y : Int32} {a b c d a' b' : Int} (h : zB x a b) (k : zB y c d) (h1 : 0 ≤ a) (h2 : 0 ≤ c) (h3 : b * d ≤ 2147483647) (e1 : a' ≤ a * c) (e2 : b * d ≤ b') : zB (x * y) a' b' := by
  have p1 := h.1; have p2 := h.2; have p3 := k.1; have p4 := k.2
  have q1 : a * c ≤ x.toInt * y.toInt := Int.mul_le_mul p1 p3 h2 (by omega)
  have q2 : x.toInt * y.toInt ≤ b * d := Int.mul_le_mul p2 p4 (by omega) (by omega)
  have q3 : 0 ≤ a * c := Int.mul_nonneg h1 h2
  unfold zB
  rw [Int32.toInt_mul, zbm (by omega) (by omega)]
  exact ⟨by omega, by omega⟩
theorem zbv (x : Int32) : x.toInt = if 2 * x.toBitVec.toNat < 4294967296 then (x.toBitVec.toNat : Int) else (x.toBitVec.toNat : Int) - 4294967296 := by
  have h := BitVec.toInt_eq_toNat_cond x.toBitVec
  exact h
theorem znn {x : Int32} (h : 0 ≤ x.toInt) : x.toInt = (x.toBitVec.toNat : Int) ∧ x.toBitVec.toNat < 2147483648 := by
  have h1 := zbv x
  have h2 := x.toBitVec.isLt
  split at h1 <;> omega
theorem zof {x : Int32} {n : Nat} (h : x.toBitVec.toNat = n) (hn : n < 2147483648) : x.toInt = (n : Int) := by
  have h1 := zbv x
  rw [h] at h1
  split at h1 <;> omega
theorem zB_andl {x y : Int32} {a b : Int} (h : zB x a b) (h0 : 0 ≤ a) : zB (x &&& y) 0 b := by
  have := h.1; have := h.2
  obtain ⟨e, hn⟩ := znn (x := x) (by omega)
  have q : (x &&& y).toBitVec.toNat = x.toBitVec.toNat &&& y.toBitVec.toNat := by rw [Int32.toBitVec_and, BitVec.toNat_and]
  have r : x.toBitVec.toNat &&& y.toBitVec.toNat ≤ x.toBitVec.toNat := Nat.and_le_left
  have z := zof q (by omega)
  exact ⟨by omega, by omega⟩
theorem zB_andr {x y : Int32} {a b : Int} (h : zB y a b) (h0 : 0 ≤ a) : zB (x &&& y) 0 b := by
  have := h.1; have := h.2
  obtain ⟨e, hn⟩ := znn (x := y) (by omega)
  have q : (x &&& y).toBitVec.toNat = x.toBitVec.toNat &&& y.toBitVec.toNat := by rw [Int32.toBitVec_and, BitVec.toNat_and]
  have r : x.toBitVec.toNat &&& y.toBitVec.toNat ≤ y.toBitVec.toNat := Nat.and_le_right
  have z := zof q (by omega)
  exact ⟨by omega, by omega⟩
theorem zB_or (k : Nat) {x y : Int32} {a b c d a' b' : Int} (h : zB x a b) (g : zB y c d) (h1 : 0 ≤ a) (h2 : 0 ≤ c) (h3 : b < 2 ^ k) (h4 : d < 2 ^ k) (h5 : k ≤ 31) (e1 : a' ≤ a ∨ a' ≤ c) (e2 : 2 ^ k - 1 ≤ b') : zB (x ||| y) a' b' := by
  have := h.1; have := h.2; have := g.1; have := g.2
  obtain ⟨ex, hx⟩ := znn (x := x) (by omega)
  obtain ⟨ey, hy⟩ := znn (x := y) (by omega)
  have q : (x ||| y).toBitVec.toNat = x.toBitVec.toNat ||| y.toBitVec.toNat := by rw [Int32.toBitVec_or, BitVec.toNat_or]
  have c1 : ((2 ^ k : Nat) : Int) = 2 ^ k := by simp
  have r : x.toBitVec.toNat ||| y.toBitVec.toNat < 2 ^ k := Nat.or_lt_two_pow (by omega) (by omega)
  have r1 : x.toBitVec.toNat ≤ x.toBitVec.toNat ||| y.toBitVec.toNat := Nat.left_le_or
  have r2 : y.toBitVec.toNat ≤ x.toBitVec.toNat ||| y.toBitVec.toNat := Nat.right_le_or
  have r3 : (2 : Nat) ^ k ≤ 2 ^ 31 := Nat.pow_le_pow_right (by decide) h5
  have z := zof q (by omega)
  exact ⟨by omega, by omega⟩
theorem zB_xor (k : Nat) {x y : Int32} {a b c d a' b' : Int} (h : zB x a b) (g : zB y c d) (h1 : 0 ≤ a) (h2 : 0 ≤ c) (h3 : b < 2 ^ k) (h4 : d < 2 ^ k) (h5 : k ≤ 31) (e2 : a' ≤ 0 ∧ 2 ^ k - 1 ≤ b') : zB (x ^^^ y) a' b' := by
  have := h.1; have := h.2; have := g.1; have := g.2
  obtain ⟨ex, hx⟩ := znn (x := x) (by omega)
  obtain ⟨ey, hy⟩ := znn (x := y) (by omega)
  have q : (x ^^^ y).toBitVec.toNat = x.toBitVec.toNat ^^^ y.toBitVec.toNat := by rw [Int32.toBitVec_xor, BitVec.toNat_xor]
  have c1 : ((2 ^ k : Nat) : Int) = 2 ^ k := by simp
  have r : x.toBitVec.toNat ^^^ y.toBitVec.toNat < 2 ^ k := Nat.xor_lt_two_pow (by omega) (by omega)
  have r3 : (2 : Nat) ^ k ≤ 2 ^ 31 := Nat.pow_le_pow_right (by decide) h5
  have z := zof q (by omega)
  exact ⟨by omega, by omega⟩
theorem zB_not {x : Int32} {a b a' b' : Int} (h : zB x a b) (e1 : a' ≤ -1 - b) (e2 : -1 - a ≤ b') : zB (x ^^^ (-1)) a' b' := by
  have p1 := h.1; have p2 := h.2
  have q : (x ^^^ (-1)).toBitVec = ~~~ x.toBitVec := by
    rw [Int32.toBitVec_xor]
    exact BitVec.xor_allOnes
  have q2 : (x ^^^ (-1)).toBitVec.toNat = 2 ^ 32 - 1 - x.toBitVec.toNat := by rw [q, BitVec.toNat_not]
  have h1 := zbv x
  have h2 := zbv (x ^^^ (-1))
  have h3 := x.toBitVec.isLt
  rw [q2] at h2
  split at h1 <;> split at h2 <;> exact ⟨by omega, by omega⟩
theorem zsh1 : ∀ k, k < 31 → ((1 : Int32) <<< (nI k &&& 31)).toInt = 2 ^ k := by decide
theorem zB_nat {x : Int32} {a b : Int} (h : zB x a b) (h0 : 0 ≤ a) : ∃ k : Nat, x = nI k ∧ (k : Int) = x.toInt ∧ a ≤ k ∧ (k : Int) ≤ b := by
  have p1 := h.1; have p2 := h.2
  have p3 := Int32.toInt_lt x
  refine ⟨x.toInt.toNat, ?_, by omega, by omega, by omega⟩
  apply Int32.toInt_inj.mp
  rw [nI_toInt (by omega)]; omega
theorem zB_shl1 {y : Int32} {c d a' b' : Int} (g : zB y c d) (h1 : 0 ≤ c) (h2 : d ≤ 30) (e1 : a' ≤ 2 ^ c.toNat) (e2 : (2 : Int) ^ d.toNat ≤ b') : zB ((1 : Int32) <<< (y &&& 31)) a' b' := by
  obtain ⟨k, rfl, e, q1, q2⟩ := zB_nat g h1
  have z := zsh1 k (by omega)
  have r1 : (2 : Nat) ^ c.toNat ≤ 2 ^ k := Nat.pow_le_pow_right (by decide) (by omega)
  have r2 : (2 : Nat) ^ k ≤ 2 ^ d.toNat := Nat.pow_le_pow_right (by decide) (by omega)
  have c1 : ((2 ^ c.toNat : Nat) : Int) = 2 ^ c.toNat := by simp
  have c2 : ((2 ^ d.toNat : Nat) : Int) = 2 ^ d.toNat := by simp
  have c3 : ((2 ^ k : Nat) : Int) = 2 ^ k := by simp
  exact ⟨by omega, by omega⟩
theorem zremI {x y : Int32} (hx : 0 ≤ x.toInt) (hy : 1 ≤ y.toInt) : (x - x / y * y).toInt = x.toInt % y.toInt := by
  have p5 := Int32.toInt_lt x
  have q1 : 0 ≤ x.toInt / y.toInt := Int.ediv_nonneg (by omega) (by omega)
  have q2 : x.toInt / y.toInt ≤ x.toInt := Int.ediv_le_self _ (by omega)
  have t1 : x.toInt / y.toInt * y.toInt ≤ x.toInt := Int.ediv_mul_le _ (by omega)
  have t0 : 0 ≤ x.toInt / y.toInt * y.toInt := Int.mul_nonneg q1 (by omega)
  have e1 : (x / y).toInt = x.toInt / y.toInt := by rw [Int32.toInt_div, Int.tdiv_eq_ediv_of_nonneg (by omega), zbm (by omega) (by omega)]
  have e2 : (x / y * y).toInt = x.toInt / y.toInt * y.toInt := by rw [Int32.toInt_mul, e1, zbm (by omega) (by omega)]
  rw [Int32.toInt_sub, e2, zbm (by omega) (by omega), Int.emod_def, Int.mul_comm]
theorem zB_rem {x y : Int32} {a b c d b' : Int} (h : zB x a b) (g : zB y c d) (h1 : 0 ≤ a) (h2 : 1 ≤ c) (e : b ≤ b' ∨ d - 1 ≤ b') : zB (x - x / y * y) 0 b' := by
  have p1 := h.1; have p2 := h.2; have p3 := g.1; have p4 := g.2
  unfold zB
  rw [zremI (by omega) (by omega)]
  have q1 := Int.emod_nonneg x.toInt (b := y.toInt) (by omega)
  have q2 := Int.emod_lt_of_pos x.toInt (b := y.toInt) (by omega)
  have q3 : x.toInt % y.toInt ≤ x.toInt := by
    have t1 : y.toInt * (x.toInt / y.toInt) + x.toInt % y.toInt = x.toInt := by first | exact Int.mul_ediv_add_emod .. | exact Int.ediv_add_emod ..
    have t2 : 0 ≤ y.toInt * (x.toInt / y.toInt) := Int.mul_nonneg (by omega) (Int.ediv_nonneg (by omega) (by omega))
    omega
  exact ⟨by omega, by omega⟩
theorem zB_div {x y : Int32} {a b c d a' b' : Int} (h : zB x a b) (g : zB y c d) (h1 : 0 ≤ a) (h2 : 1 ≤ c) (e1 : a' ≤ 0 ∨ (c = d ∧ a' ≤ a / d)) (e2 : b / c ≤ b') : zB (x / y) a' b' := by
  have p1 := h.1; have p2 := h.2; have p3 := g.1; have p4 := g.2
  have p5 := Int32.toInt_lt x
  unfold zB
  rw [Int32.toInt_div, Int.tdiv_eq_ediv_of_nonneg (by omega)]
  have q1 : 0 ≤ x.toInt / y.toInt := Int.ediv_nonneg (by omega) (by omega)
  have q2 : x.toInt / y.toInt ≤ x.toInt := Int.ediv_le_self _ (by omega)
  have q3 : x.toInt / y.toInt ≤ b / c := by
    have r1 : x.toInt / y.toInt * c ≤ b := by
      have t1 : x.toInt / y.toInt * y.toInt ≤ x.toInt := Int.ediv_mul_le _ (by omega)
      have t2 : x.toInt / y.toInt * c ≤ x.toInt / y.toInt * y.toInt := Int.mul_le_mul_of_nonneg_left p3 q1
      omega
    exact (Int.le_ediv_iff_mul_le (by omega)).mpr r1
  rw [zbm (by omega) (by omega)]
  refine ⟨?_, by omega⟩
  rcases e1 with e1 | ⟨e3, e4⟩
  · omega
  · have q4 : a / d ≤ x.toInt / d := Int.ediv_le_ediv (by omega) p1
    have q5 : y.toInt = d := by omega
    rw [q5]; omega
theorem zB_max {x y : Int32} {a b c d a' b' : Int} (h : zB x a b) (g : zB y c d) (e1 : a' ≤ a ∨ a' ≤ c) (e2 : b ≤ b' ∧ d ≤ b') : zB (if x < y then y else x) a' b' := by
  have p1 := h.1; have p2 := h.2; have p3 := g.1; have p4 := g.2
  split
  · next q => have := zl q; exact ⟨by omega, by omega⟩
  · next q => have := zg q; exact ⟨by omega, by omega⟩
theorem zB_min {x y : Int32} {a b c d a' b' : Int} (h : zB x a b) (g : zB y c d) (e1 : a' ≤ a ∧ a' ≤ c) (e2 : b ≤ b' ∨ d ≤ b') : zB (if y < x then y else x) a' b' := by
  have p1 := h.1; have p2 := h.2; have p3 := g.1; have p4 := g.2
  split
  · next q => have := zl q; exact ⟨by omega, by omega⟩
  · next q => have := zg q; exact ⟨by omega, by omega⟩
theorem zB_byte (x : Int32) : zB (vp_nar .byte x) (-128) 127 := by
  rw [vp_nar_byte]
  have h1 := Int8.le_toInt x.toInt8
  have h2 := Int8.toInt_lt x.toInt8
  unfold zB
  rw [Int8.toInt_toInt32]
  exact ⟨by omega, by omega⟩
theorem zB_in {i : Int32} {a b : Int} {n : Nat} (h : zB i a b) (h0 : 0 ≤ a) (h1 : b < n) : vp_in i n := by
  obtain ⟨k, rfl, e, q1, q2⟩ := zB_nat h h0
  have p := Int32.toInt_lt (nI k)
  have hk : k < 2 ^ 31 := by omega
  intro q
  rw [nI_clamp hk] at q
  rcases q with q | q
  · have := zl q
    have e0 : (0 : Int32).toInt = 0 := by decide
    omega
  · omega
theorem zclamp {i : Int32} {a b : Int} (h : zB i a b) (h0 : 0 ≤ a) : (i.toNatClampNeg : Int) = i.toInt := by
  obtain ⟨k, rfl, e, q1, q2⟩ := zB_nat h h0
  have p := Int32.toInt_lt (nI k)
  rw [nI_clamp (by omega)]; exact e
theorem zA_at {f : Nat → Int32} {p n : Nat} {a b c d : Int} {i : Int32} (h : zA f p n a b) (g : zB i c d) (h1 : (p : Int) ≤ c) (h2 : d < n) : zB (f i.toNatClampNeg) a b := by
  have p1 := g.1; have p2 := g.2
  have e := zclamp g (by omega)
  exact h _ (by omega) (by omega)
theorem zA_w {f : Nat → Int32} {p n : Nat} {a b a' b' : Int} (h : zA f p n a b) (h1 : a' ≤ a) (h2 : b ≤ b') : zA f p n a' b' := fun j q r => zB_w (h j q r) h1 h2
theorem zA_n {f : Nat → Int32} {p n p' n' : Nat} {a b : Int} (h : zA f p n a b) (h1 : p ≤ p') (h2 : n' ≤ n) : zA f p' n' a b := fun j q r => h j (by omega) (by omega)
theorem zA_up {f g : Nat → Int32} {k p n : Nat} {v : Int32} {a b c d : Int} (e : g = upd f k v) (h : zA f p n a b) (hv : zB v c d) (h1 : a ≤ c) (h2 : d ≤ b) : zA g p n a b := by
  subst e
  intro j q r
  by_cases z : j = k
  · subst z; rw [pk_us]; exact zB_w hv h1 h2
  · rw [pk_un z]; exact h j q r
theorem zA_un {f g : Nat → Int32} {i v : Int32} {p n : Nat} {a b c d : Int} (e : g = upd f i.toNatClampNeg v) (h : zA f p n a b) (hi : zB i c d) (h1 : 0 ≤ c) (h2 : d < p ∨ (n : Int) ≤ c) : zA g p n a b := by
  subst e
  intro j q r
  have p1 := hi.1; have p2 := hi.2
  have ee := zclamp hi h1
  have z : j ≠ i.toNatClampNeg := by omega
  rw [pk_un z]; exact h j q r
theorem zM_u0 {P : Prop} {v : Int32} {a b : Int} (h : zB v a b) (m : b + 1 - v.toInt ≤ ((0 : Nat) : Int)) : P := by have := h.2; omega
theorem zM_d0 {P : Prop} {v : Int32} {a b : Int} (h : zB v a b) (m : v.toInt - a + 1 ≤ ((0 : Nat) : Int)) : P := by have := h.1; omega
theorem zM_ui {v : Int32} {a b b' : Int} {n : Nat} (h : zB v a b) (e : b' + 1 - a ≤ (n : Int)) : b' + 1 - v.toInt ≤ (n : Int) := by have := h.1; omega
theorem zM_di {v : Int32} {a b a' : Int} {n : Nat} (h : zB v a b) (e : b - a' + 1 ≤ (n : Int)) : v.toInt - a' + 1 ≤ (n : Int) := by have := h.2; omega
theorem zM_us {v w : Int32} {b k : Int} {n : Nat} (m : b + 1 - v.toInt ≤ ((n + 1 : Nat) : Int)) (r : w.toInt = v.toInt + k) (e : 1 ≤ k) : b + 1 - w.toInt ≤ (n : Int) := by omega
theorem zM_ds {v w : Int32} {a k k' : Int} {n : Nat} (m : v.toInt - a + 1 ≤ ((n + 1 : Nat) : Int)) (r : w.toInt = v.toInt + k') (e : k' ≤ -1) : w.toInt - a + 1 ≤ (n : Int) := by omega
theorem zi_inc {x : Int32} {k c d a b : Int} (h : zB x c d) (h0 : (Int32.ofInt k).toInt = k) (h1 : -2147483648 ≤ c + k) (h2 : d + k ≤ 2147483647) (e1 : a ≤ c + k) (e2 : d + k ≤ b) : ∃ y : Int32, zB y a b ∧ y.toInt = x.toInt + k ∧ x + Int32.ofInt k = y := by
  have p1 := h.1; have p2 := h.2
  have e : (x + Int32.ofInt k).toInt = x.toInt + k := by rw [Int32.toInt_add, h0, zbm (by omega) (by omega)]
  exact ⟨_, ⟨by omega, by omega⟩, e, rfl⟩
section ZZ
variable {p : Program} {l : Launch} {e : Env} {R : Room} {s : State} {m : MethodId} {args : Array Value} {below : List Frame} {meth : Method} {c : Code} {H : Heap} {locs : List Loc} {cells slots : Nat} {Q : State → Prop}
variable {cc : ByteArray} {pc : Nat} {ls : Array Slot} {rest : List Value} {D : va_G} {cl : List vw_C} {A : Nat → Prop} {a : Nat} {tys : List (ClassId × FieldType)} {ws : va_W} {H0 : Heap}
theorem zz_abs {g : JFrame} (k : ∀ Q' : State → Prop, (∀ (H' : Heap) (locs' : List Loc) (g' : JFrame), W p l e R s m args below meth c H' locs' 0 0 Q g' → W p l e R s m args below meth c H' locs' 0 0 Q' g') → W p l e R s m args below meth c H locs 0 0 Q' g) : W p l e R s m args below meth c H locs 0 0 Q g := k Q (fun _ _ _ h => h)
theorem zi_top {x : Int32} {a b : Int} (h : zB x a b) (k : ∀ y : Int32, zB y a b → W p l e R s m args below meth c H locs cells slots Q (F0 m pc ls (.int y :: rest))) : W p l e R s m args below meth c H locs cells slots Q (F0 m pc ls (.int x :: rest)) := k x h
theorem zi_top2 {x : Int32} {a b : Int} {P : Int32 → Prop} (h : zB x a b) (hp : P x) (k : ∀ y : Int32, zB y a b → P y → W p l e R s m args below meth c H locs cells slots Q (F0 m pc ls (.int y :: rest))) : W p l e R s m args below meth c H locs cells slots Q (F0 m pc ls (.int x :: rest)) := k x h hp
theorem zi_iast (hexec : p.tables.exec = Jvm.exec) (hb : c.code = cc) (hK : va_K D cl tys s) (hP : va_P D cl ws H) (hD : va_D A ws) (hS : va_S A H0 H locs) (q0 t0 : Nat) {cA : ClassId} {n : Nat} {f : Nat → Int32} (ha : ws[q0]? = some (a, .inl (cA, n, .inl f))) (ht : tys[t0]? = some (cA, .int)) {i : Int32} {x : Int32} (hin : vp_in i n) (hdg : decode cc pc = .ok (.iastore, 1))
    (kk : ∀ (H1 : Heap) (locs1 : List Loc) (g : Nat → Int32), g = upd f i.toNatClampNeg x → va_P D cl (ws.set q0 (a, .inl (cA, n, .inl g))) H1 → va_D A (ws.set q0 (a, .inl (cA, n, .inl g))) → va_S A H0 H1 locs1 → W p l e R s m args below meth c H1 locs1 cells slots Q (F0 m (pc + 1) ls rest)) : W p l e R s m args below meth c H locs cells slots Q (F0 m pc ls (.int x :: .int i :: .ref a :: rest)) :=
  va_iast hexec hb hK hP hD hS q0 t0 ha ht hin hdg (fun H1 locs1 h1 h2 h3 => kk H1 locs1 _ rfl h1 h2 h3)
theorem zi_bast (hexec : p.tables.exec = Jvm.exec) (hb : c.code = cc) (hK : va_K D cl tys s) (hP : va_P D cl ws H) (hD : va_D A ws) (hS : va_S A H0 H locs) (q0 t0 : Nat) {cA : ClassId} {n : Nat} {f : Nat → Int32} (ha : ws[q0]? = some (a, .inl (cA, n, .inl f))) (ht : tys[t0]? = some (cA, .byte)) {i : Int32} {x : Int32} (hin : vp_in i n) (hdg : decode cc pc = .ok (.bastore, 1))
    (kk : ∀ (H1 : Heap) (locs1 : List Loc) (g : Nat → Int32), g = upd f i.toNatClampNeg (vp_nar .byte x) → va_P D cl (ws.set q0 (a, .inl (cA, n, .inl g))) H1 → va_D A (ws.set q0 (a, .inl (cA, n, .inl g))) → va_S A H0 H1 locs1 → W p l e R s m args below meth c H1 locs1 cells slots Q (F0 m (pc + 1) ls rest)) : W p l e R s m args below meth c H locs cells slots Q (F0 m pc ls (.int x :: .int i :: .ref a :: rest)) :=
  va_bast hexec hb hK hP hD hS q0 t0 ha ht hin hdg (fun H1 locs1 h1 h2 h3 => kk H1 locs1 _ rfl h1 h2 h3)
theorem zi_zast (hexec : p.tables.exec = Jvm.exec) (hb : c.code = cc) (hK : va_K D cl tys s) (hP : va_P D cl ws H) (hD : va_D A ws) (hS : va_S A H0 H locs) (q0 t0 : Nat) {cA : ClassId} {n : Nat} {f : Nat → Int32} (ha : ws[q0]? = some (a, .inl (cA, n, .inl f))) (ht : tys[t0]? = some (cA, .boolean)) {i : Int32} {x : Int32} (hin : vp_in i n) (hdg : decode cc pc = .ok (.bastore, 1))
    (kk : ∀ (H1 : Heap) (locs1 : List Loc) (g : Nat → Int32), g = upd f i.toNatClampNeg (vp_nar .boolean x) → va_P D cl (ws.set q0 (a, .inl (cA, n, .inl g))) H1 → va_D A (ws.set q0 (a, .inl (cA, n, .inl g))) → va_S A H0 H1 locs1 → W p l e R s m args below meth c H1 locs1 cells slots Q (F0 m (pc + 1) ls rest)) : W p l e R s m args below meth c H locs cells slots Q (F0 m pc ls (.int x :: .int i :: .ref a :: rest)) :=
  va_zast hexec hb hK hP hD hS q0 t0 ha ht hin hdg (fun H1 locs1 h1 h2 h3 => kk H1 locs1 _ rfl h1 h2 h3)
theorem zi_last (hexec : p.tables.exec = Jvm.exec) (hb : c.code = cc) (hK : va_K D cl tys s) (hP : va_P D cl ws H) (hD : va_D A ws) (hS : va_S A H0 H locs) (q0 t0 : Nat) {cA : ClassId} {n : Nat} {f : Nat → Int64} (ha : ws[q0]? = some (a, .inl (cA, n, .inr (.inl f)))) (ht : tys[t0]? = some (cA, .long)) {i : Int32} {x : Int64} (hin : vp_in i n) (hdg : decode cc pc = .ok (.lastore, 1))
    (kk : ∀ (H1 : Heap) (locs1 : List Loc) (g : Nat → Int64), g = vp_updL f i.toNatClampNeg x → va_P D cl (ws.set q0 (a, .inl (cA, n, .inr (.inl g)))) H1 → va_D A (ws.set q0 (a, .inl (cA, n, .inr (.inl g)))) → va_S A H0 H1 locs1 → W p l e R s m args below meth c H1 locs1 cells slots Q (F0 m (pc + 1) ls rest)) : W p l e R s m args below meth c H locs cells slots Q (F0 m pc ls (.long x :: .int i :: .ref a :: rest)) :=
  va_last hexec hb hK hP hD hS q0 t0 ha ht hin hdg (fun H1 locs1 h1 h2 h3 => kk H1 locs1 _ rfl h1 h2 h3)
end ZZ
theorem zB_shr {x y : Int32} {a b : Int} (h : zB x a b) (h0 : 0 ≤ a) : zB (x >>> (y &&& 31)) 0 b := by
  have p1 := h.1; have p2 := h.2
  have q : (x >>> (y &&& 31)).toInt = x.toInt >>> ((y &&& 31).toBitVec.smod 32).toNat := by
    rw [← Int32.toInt_toBitVec, Int32.toBitVec_shiftRight, BitVec.sshiftRight', BitVec.toInt_sshiftRight, Int32.toInt_toBitVec]
  unfold zB
  rw [q, Int.shiftRight_eq_div_pow]
  have r1 : 0 ≤ x.toInt / ((2 ^ ((y &&& 31).toBitVec.smod 32).toNat : Nat) : Int) := Int.ediv_nonneg (by omega) (Int.natCast_nonneg _)
  have r2 : x.toInt / ((2 ^ ((y &&& 31).toBitVec.smod 32).toNat : Nat) : Int) ≤ x.toInt := Int.ediv_le_self _ (by omega)
  exact ⟨r1, by omega⟩
theorem zB_bool (x : Int32) : zB (vp_nar .boolean x) 0 1 := by
  have h : vp_nar .boolean x = x &&& 1 := by
    unfold vp_nar; rfl
  rw [h]
  exact zB_andr (a := 1) (b := 1) ⟨by decide, by decide⟩ (by decide)
