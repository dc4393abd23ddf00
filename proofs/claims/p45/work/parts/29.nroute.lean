/-! bits of a set of rooms -/
def zhs (x k : Int32) : Prop := (x >>> (k &&& 31)) &&& 1 = 1
theorem zhs_n {k : Nat} (hk : k < 31) (x : Int32) : zhs x (nI k) ↔ x.toBitVec.getLsbD k = true := by
  have e1 : ((nI k &&& 31).toBitVec.smod 32).toNat = k := by
    revert k; decide
  have e2 : (x >>> (nI k &&& 31)).toBitVec = x.toBitVec.sshiftRight k := by
    rw [Int32.toBitVec_shiftRight, BitVec.sshiftRight', e1]
  have e3 : ((x >>> (nI k &&& 31)) &&& 1).toBitVec = x.toBitVec.sshiftRight k &&& 1#32 := by
    rw [Int32.toBitVec_and, e2]; rfl
  have e4 : (x.toBitVec.sshiftRight k &&& 1#32) = 1#32 ↔ (x.toBitVec.sshiftRight k).getLsbD 0 = true := by
    constructor
    · intro h
      have := congrArg (fun b => BitVec.getLsbD b 0) h
      simpa using this
    · intro h
      apply BitVec.eq_of_getLsbD_eq
      intro i hi
      by_cases h0 : i = 0
      · subst h0; simp [h]
      · simp [h0, BitVec.getLsbD_one]
  have e5 : (x.toBitVec.sshiftRight k).getLsbD 0 = x.toBitVec.getLsbD k := by
    rw [BitVec.getLsbD_sshiftRight]
    simp; omega
  unfold zhs
  rw [← e5, ← e4, ← e3]
  constructor
  · intro h; rw [h]; rfl
  · intro h
    apply Int32.toBitVec_inj.mp
    rw [h]; rfl
theorem zhs_b {x k : Int32} (h0 : 0 ≤ k.toInt) (h1 : k.toInt ≤ 30) : zhs x k ↔ x.toBitVec.getLsbD k.toInt.toNat = true := by
  obtain ⟨n, rfl, e, q1, q2⟩ := zB_nat (x := k) (a := 0) (b := 30) ⟨h0, h1⟩ (by decide)
  have : (nI n).toInt.toNat = n := by omega
  rw [this]
  exact zhs_n (by omega) x
theorem zsh_bit : ∀ n, n < 8 → ∀ j, j < 8 → (((1 : Int32) <<< (nI n &&& 31)).toBitVec.getLsbD j = true ↔ j = n) := by decide
theorem zhs_0 {k : Int32} (h0 : 0 ≤ k.toInt) (h1 : k.toInt ≤ 30) : ¬ zhs 0 k := by
  rw [zhs_b h0 h1]
  simp
theorem zhs_or {x y k : Int32} (h0 : 0 ≤ k.toInt) (h1 : k.toInt ≤ 30) : zhs (x ||| y) k ↔ zhs x k ∨ zhs y k := by
  rw [zhs_b h0 h1, zhs_b h0 h1, zhs_b h0 h1, Int32.toBitVec_or, BitVec.getLsbD_or]
  simp
theorem zhs_1 {o k : Int32} (h0 : 0 ≤ k.toInt) (h1 : k.toInt ≤ 7) (h2 : 0 ≤ o.toInt) (h3 : o.toInt ≤ 7) : zhs ((1 : Int32) <<< (o &&& 31)) k ↔ k = o := by
  obtain ⟨n, rfl, e, q1, q2⟩ := zB_nat (x := o) (a := 0) (b := 7) ⟨h2, h3⟩ (by decide)
  rw [zhs_b h0 (by omega), zsh_bit n (by omega) _ (by omega)]
  constructor
  · intro h; apply Int32.toInt_inj.mp; omega
  · intro h; subst h; omega
/-! the way to a goal -/
def zS (f : Nat → Int32) : Int := (f 0).toInt + (f 1).toInt + (f 2).toInt + (f 3).toInt + (f 4).toInt + (f 5).toInt + (f 6).toInt + (f 7).toInt
theorem zS_up {f g : Nat → Int32} {a : Nat} {v : Int32} (e : g = upd f a v) (ha : a < 8) : zS g = zS f - (f a).toInt + v.toInt := by
  subst e
  have h : ∀ j, (upd f a v j).toInt = if j = a then v.toInt else (f j).toInt := by
    intro j; unfold upd; split <;> rfl
  unfold zS
  rw [h 0, h 1, h 2, h 3, h 4, h 5, h 6, h 7]
  have : a = 0 ∨ a = 1 ∨ a = 2 ∨ a = 3 ∨ a = 4 ∨ a = 5 ∨ a = 6 ∨ a = 7 := by omega
  rcases this with rfl | rfl | rfl | rfl | rfl | rfl | rfl | rfl <;> simp <;> omega
def zci (x y : Int) : Int := if x < y then 1 else 0
def zcnt (f : Nat → Int32) (y : Int) : Int := zci (f 0).toInt y + zci (f 1).toInt y + zci (f 2).toInt y + zci (f 3).toInt y + zci (f 4).toInt y + zci (f 5).toInt y + zci (f 6).toInt y + zci (f 7).toInt y
theorem zci_m {x y z : Int} (h : y ≤ z) : zci x y ≤ zci x z ∧ 0 ≤ zci x y := by unfold zci; split <;> split <;> omega
theorem zci_s {y z : Int} (h : y < z) : zci y y + 1 ≤ zci y z := by unfold zci; rw [if_neg (by omega), if_pos h]; omega
theorem zcnt_s {f : Nat → Int32} {a : Nat} {z : Int} (ha : a < 8) (h : (f a).toInt < z) : zcnt f (f a).toInt + 1 ≤ zcnt f z := by
  have hm : ∀ j, zci (f j).toInt (f a).toInt ≤ zci (f j).toInt z := fun j => (zci_m (by omega)).1
  have hs := zci_s h
  unfold zcnt
  have h0 := hm 0; have h1 := hm 1; have h2 := hm 2; have h3 := hm 3; have h4 := hm 4; have h5 := hm 5; have h6 := hm 6; have h7 := hm 7
  have : a = 0 ∨ a = 1 ∨ a = 2 ∨ a = 3 ∨ a = 4 ∨ a = 5 ∨ a = 6 ∨ a = 7 := by omega
  rcases this with rfl | rfl | rfl | rfl | rfl | rfl | rfl | rfl <;> omega
theorem zcnt_0 {f : Nat → Int32} {z : Int} : 0 ≤ zcnt f z := by
  have hm : ∀ j, 0 ≤ zci (f j).toInt z := fun j => (zci_m (Int.le_refl z)).2
  have h0 := hm 0; have h1 := hm 1; have h2 := hm 2; have h3 := hm 3; have h4 := hm 4; have h5 := hm 5; have h6 := hm 6; have h7 := hm 7
  unfold zcnt; omega
theorem zci_1 {x z : Int} : zci x z ≤ 1 := by unfold zci; split <;> omega
theorem zcnt_7 {f : Nat → Int32} {a : Nat} (ha : a < 8) : zcnt f (f a).toInt ≤ 7 := by
  have hm : ∀ j, zci (f j).toInt (f a).toInt ≤ 1 := fun j => zci_1
  have hs : zci (f a).toInt (f a).toInt = 0 := by unfold zci; rw [if_neg (by omega)]
  have h0 := hm 0; have h1 := hm 1; have h2 := hm 2; have h3 := hm 3; have h4 := hm 4; have h5 := hm 5; have h6 := hm 6; have h7 := hm 7
  unfold zcnt
  have : a = 0 ∨ a = 1 ∨ a = 2 ∨ a = 3 ∨ a = 4 ∨ a = 5 ∨ a = 6 ∨ a = 7 := by omega
  rcases this with rfl | rfl | rfl | rfl | rfl | rfl | rfl | rfl <;> omega
/-- a door by its two sides: e even from one to the other, e odd back -/
def zda (on ot : Nat → Int32) (b e : Nat) : Nat := if e % 2 = 0 then (on (12 * b + e / 2)).toNatClampNeg else (ot (12 * b + e / 2)).toNatClampNeg
def zdb (on ot : Nat → Int32) (b e : Nat) : Nat := if e % 2 = 0 then (ot (12 * b + e / 2)).toNatClampNeg else (on (12 * b + e / 2)).toNatClampNeg
/-- each room that has a number has it by a door -/
def zgn (tg wt on ot : Nat → Int32) (b : Nat) (n goal : Int) : Prop := ∀ a : Nat, a < 8 → (a : Int) ≠ goal → (tg a).toInt < 10000 → ∃ e : Nat, (e : Int) < n ∧ zda on ot b e = a ∧ (tg (zdb on ot b e)).toInt + (wt (zdb on ot b e)).toInt ≤ (tg a).toInt
/-- no door of the first n makes a number less -/
def zgf (tg wt on ot : Nat → Int32) (b : Nat) (n : Int) (cl : Int32) : Prop := ∀ e : Nat, (e : Int) < n → ¬ zhs cl (nI (zda on ot b e)) → ¬ zhs cl (nI (zdb on ot b e)) → (tg (zda on ot b e)).toInt ≤ (tg (zdb on ot b e)).toInt + (wt (zdb on ot b e)).toInt
theorem zgn_up {tg tg' wt on ot : Nat → Int32} {b : Nat} {n goal : Int} {e : Nat} {v : Int32} (h : zgn tg wt on ot b n goal) (hw : zA wt 0 8 0 901) (hb : zdb on ot b e < 8) (he : (e : Int) < n) (eu : tg' = upd tg (zda on ot b e) v) (ev : v.toInt = (tg (zdb on ot b e)).toInt + (wt (zdb on ot b e)).toInt) (hv : v.toInt < (tg (zda on ot b e)).toInt) : zgn tg' wt on ot b n goal := by
  subst eu
  have w0 := (hw _ (Nat.zero_le _) hb).1
  have hne : zdb on ot b e ≠ zda on ot b e := by intro q; rw [q] at ev w0; omega
  have le : ∀ j, (upd tg (zda on ot b e) v j).toInt ≤ (tg j).toInt := by
    intro j
    by_cases q : j = zda on ot b e
    · subst q; rw [pk_us]; omega
    · rw [pk_un q]; omega
  intro a ha hg hlt
  by_cases q : a = zda on ot b e
  · subst q
    refine ⟨e, he, rfl, ?_⟩
    rw [pk_us, pk_un hne]; omega
  · rw [pk_un q] at hlt ⊢
    obtain ⟨e2, k1, k2, k3⟩ := h a ha hg hlt
    exact ⟨e2, k1, k2, by have := le (zdb on ot b e2); omega⟩
theorem zgf_s {tg wt on ot : Nat → Int32} {b : Nat} {n m : Int} {cl : Int32} {e : Nat} (h : zgf tg wt on ot b n cl) (hn : n = (e : Int)) (hm : m = n + 1) (k : ¬ zhs cl (nI (zda on ot b e)) → ¬ zhs cl (nI (zdb on ot b e)) → (tg (zda on ot b e)).toInt ≤ (tg (zdb on ot b e)).toInt + (wt (zdb on ot b e)).toInt) : zgf tg wt on ot b m cl := by
  intro e2 h2
  by_cases q : e2 = e
  · subst q; exact k
  · exact h e2 (by omega)
theorem znI {x : Int32} (h : 0 ≤ x.toInt) : nI x.toNatClampNeg = x := by
  obtain ⟨k, rfl, e, q1, q2⟩ := zB_nat (x := x) (a := 0) (b := 2147483647) ⟨h, (zB_top x).2⟩ (by decide)
  rw [nI_clamp (by omega)]
/-- from a room that has a number goes a door on -/
theorem zgo {tg wt on ot : Nat → Int32} {b : Nat} {n goal : Int} {a : Nat} (h : zgn tg wt on ot b n goal) (f : zgf tg wt on ot b n 0) (hl : ∀ j, (on j).toInt ≤ 7 ∧ 0 ≤ (on j).toInt ∧ (ot j).toInt ≤ 7 ∧ 0 ≤ (ot j).toInt) (ha : a < 8) (hg : (a : Int) ≠ goal) (ht : (tg a).toInt < 10000) : ∃ e : Nat, (e : Int) < n ∧ zda on ot b e = a ∧ (tg (zdb on ot b e)).toInt + (wt (zdb on ot b e)).toInt = (tg a).toInt := by
  obtain ⟨e, k1, k2, k3⟩ := h a ha hg ht
  refine ⟨e, k1, k2, ?_⟩
  have ba : zda on ot b e < 8 := by
    have q := hl (12 * b + e / 2)
    unfold zda; split
    · have := zcl _ q.2.1; omega
    · have := zcl _ q.2.2.2; omega
  have bb : zdb on ot b e < 8 := by
    have q := hl (12 * b + e / 2)
    unfold zdb; split
    · have := zcl _ q.2.2.2; omega
    · have := zcl _ q.2.1; omega
  have hn : ∀ j, j < 8 → ¬ zhs 0 (nI j) := by
    intro j hj
    have := nI_toInt (n := j) (by omega)
    exact zhs_0 (by omega) (by omega)
  have := f e k1 (hn _ ba) (hn _ bb)
  rw [k2] at this
  omega
