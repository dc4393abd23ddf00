/-! tours -/
theorem zclr0 : ∀ q, q < 8 → ∀ l, l < 256 → (nI l >>> (nI q &&& 31)) &&& 1 = 1 → nI l &&& (((1 : Int32) <<< (nI q &&& 31)) ^^^ (-1)) = nI (l - 2 ^ q) ∧ 2 ^ q ≤ l := by decide +kernel
def zpc (x : Int32) : Int := ((x >>> (0 : Int32)) &&& (1 : Int32)).toInt + ((x >>> (1 : Int32)) &&& (1 : Int32)).toInt + ((x >>> (2 : Int32)) &&& (1 : Int32)).toInt + ((x >>> (3 : Int32)) &&& (1 : Int32)).toInt + ((x >>> (4 : Int32)) &&& (1 : Int32)).toInt + ((x >>> (5 : Int32)) &&& (1 : Int32)).toInt + ((x >>> (6 : Int32)) &&& (1 : Int32)).toInt + ((x >>> (7 : Int32)) &&& (1 : Int32)).toInt
theorem zpc0 : ∀ q, q < 8 → ∀ l, l < 256 → (nI l >>> (nI q &&& 31)) &&& 1 = 1 → zpc (nI (l - 2 ^ q)) + 1 = zpc (nI l) := by decide +kernel
theorem zpc1 : ∀ l, l < 256 → 0 ≤ zpc (nI l) ∧ zpc (nI l) ≤ 8 := by decide +kernel
theorem zpcB {x : Int32} (h : zB x 0 255) : 0 ≤ zpc x ∧ zpc x ≤ 8 := by
  obtain ⟨k, rfl, e, q1, q2⟩ := zB_nat h (by decide)
  exact zpc1 k (by omega)
theorem zclrB {x q : Int32} (h : zB x 0 255) (hq : zB q 0 7) (hz : zhs x q) : (x &&& (((1 : Int32) <<< (q &&& 31)) ^^^ (-1))).toInt = x.toInt - 2 ^ q.toNatClampNeg ∧ (2 : Int) ^ q.toNatClampNeg ≤ x.toInt ∧ zpc (x &&& (((1 : Int32) <<< (q &&& 31)) ^^^ (-1))) + 1 = zpc x := by
  obtain ⟨k, rfl, e, q1, q2⟩ := zB_nat h (by decide)
  obtain ⟨j, rfl, e', q3, q4⟩ := zB_nat hq (by decide)
  obtain ⟨a1, a2⟩ := zclr0 j (by omega) k (by omega) hz
  have a3 := zpc0 j (by omega) k (by omega) hz
  have hs := Nat.sub_le k (2 ^ j)
  rw [a1, nI_clamp (n := j) (by omega), nI_toInt (n := k - 2 ^ j) (by omega), nI_toInt (n := k) (by omega)]
  have c : ((2 ^ j : Nat) : Int) = (2 : Int) ^ j := by simp
  refine ⟨?_, ?_, a3⟩
  · rw [← c]; omega
  · rw [← c]; omega
def zok (tu ta : Nat → Int32) (P : Int) (l r : Nat) : Prop := l ≠ 0 → (tu (8 * l + r)).toInt < 10000 → ∃ q : Nat, (q : Int) < P ∧ q < 8 ∧ zhs (nI l) (nI q) ∧ (ta (8 * r + q)).toInt + (tu (8 * (l - 2 ^ q) + q)).toInt = (tu (8 * l + r)).toInt
def zto (tu ta : Nat → Int32) (set : Int32) (P n : Int) : Prop := ∀ l : Nat, (l : Int) < n → l < 256 → nI l &&& (set ^^^ (-1)) = 0 → ∀ r : Nat, (r : Int) < P → r < 8 → zok tu ta P l r
def zrw (tu ta : Nat → Int32) (P : Int) (l : Nat) (n : Int) : Prop := ∀ r : Nat, (r : Int) < n → r < 8 → zok tu ta P l r
def zmi (tu ta : Nat → Int32) (n : Int) (l r : Nat) (v : Int) : Prop := l ≠ 0 → v < 10000 → ∃ q : Nat, (q : Int) < n ∧ q < 8 ∧ zhs (nI l) (nI q) ∧ (ta (8 * r + q)).toInt + (tu (8 * (l - 2 ^ q) + q)).toInt = v
theorem zok_up {tu tu' ta : Nat → Int32} {P : Int} {l r L R : Nat} {v : Int32} (e : tu' = upd tu (8 * L + R) v) (hr : r < 8) (hR : R < 8) (hl : l < 256) (h : l < L ∨ (l = L ∧ r ≠ R)) (k : zok tu ta P l r) : zok tu' ta P l r := by
  subst e
  intro h0 h1
  rw [pk_un (show 8 * l + r ≠ 8 * L + R by omega)] at h1 ⊢
  obtain ⟨q, q1, q2, q3, q4⟩ := k h0 h1
  refine ⟨q, q1, q2, q3, ?_⟩
  have b := (zclr0 q q2 l hl q3).2
  have b1 : 0 < 2 ^ q := Nat.pos_of_ne_zero (by intro z; have := Nat.one_le_two_pow (n := q); omega)
  have a : 8 * (l - 2 ^ q) + q ≠ 8 * L + R := by omega
  rw [pk_un a]; exact q4
theorem zto_0 {tu ta : Nat → Int32} {set : Int32} {P n : Int} (h : n ≤ 0) : zto tu ta set P n := fun l hl => by omega
theorem zrw_0 {tu ta : Nat → Int32} {P n : Int} {l : Nat} (h : n ≤ 0) : zrw tu ta P l n := fun r hr => by omega
theorem zto_up {tu tu' ta : Nat → Int32} {set : Int32} {P : Int} {L R i : Int32} {v : Int32} (h : zto tu ta set P L.toInt) (e : tu' = upd tu i.toNatClampNeg v) (hi : i.toInt = 8 * L.toInt + R.toInt) (hL : 0 ≤ L.toInt) (hR : zB R 0 7) : zto tu' ta set P L.toInt := by
  have c1 := zcl L hL; have c2 := zclamp hR (by decide); have p := hR.1; have p' := hR.2; have c3 := zcl i (by omega)
  have e' : tu' = upd tu (8 * L.toNatClampNeg + R.toNatClampNeg) v := by rw [e, show i.toNatClampNeg = 8 * L.toNatClampNeg + R.toNatClampNeg by omega]
  intro l h1 h2 h3 r h4 h5
  exact zok_up e' h5 (by omega) h2 (Or.inl (by omega)) (h l h1 h2 h3 r h4 h5)
theorem zrw_up {tu tu' ta : Nat → Int32} {P n' : Int} {L R i v : Int32} (h : zrw tu ta P L.toNatClampNeg R.toInt) (m : zmi tu ta P L.toNatClampNeg R.toNatClampNeg v.toInt) (e : tu' = upd tu i.toNatClampNeg v) (hi : i.toInt = 8 * L.toInt + R.toInt) (hL : zB L 0 255) (hR : zB R 0 7) (hn : n' = R.toInt + 1) : zrw tu' ta P L.toNatClampNeg n' := by
  have l0 := hL.1; have l1 := hL.2
  have c1 := zcl L l0; have c2 := zclamp hR (by decide); have p := hR.1; have p' := hR.2; have c3 := zcl i (by omega)
  have e' : tu' = upd tu (8 * L.toNatClampNeg + R.toNatClampNeg) v := by rw [e, show i.toNatClampNeg = 8 * L.toNatClampNeg + R.toNatClampNeg by omega]
  intro r h1 h2
  by_cases z : r = R.toNatClampNeg
  · subst z
    subst e'
    intro h0 h3
    rw [pk_us] at h3 ⊢
    obtain ⟨q, q1, q2, q3, q4⟩ := m h0 h3
    refine ⟨q, q1, q2, q3, ?_⟩
    have b := (zclr0 q q2 L.toNatClampNeg (by omega) q3).2
    have b1 : 0 < 2 ^ q := Nat.pos_of_ne_zero (by intro z; have := Nat.one_le_two_pow (n := q); omega)
    rw [pk_un (show 8 * (L.toNatClampNeg - 2 ^ q) + q ≠ 8 * L.toNatClampNeg + R.toNatClampNeg by omega)]; exact q4
  · exact zok_up e' h2 (by omega) (by omega) (Or.inr ⟨rfl, z⟩) (h r (by omega) h2)
theorem zto_s {tu ta : Nat → Int32} {set : Int32} {P n' m : Int} {L y z : Int32} (h : zto tu ta set P L.toInt) (hr : zrw tu ta P L.toNatClampNeg m) (hm : P ≤ m) (hL : 0 ≤ L.toInt) (hn : n' = L.toInt + 1) : zto tu ta set P n' := by
  have c1 := zcl L hL
  intro l h1 h2 h3 r h4 h5
  by_cases q : l = L.toNatClampNeg
  · subst q; exact hr r (by omega) h5
  · exact h l (by omega) h2 h3 r h4 h5
theorem zto_x {tu ta : Nat → Int32} {set : Int32} {P n' : Int} {L y z : Int32} (h : zto tu ta set P L.toInt) (ey : y = L &&& z) (ez : z = set ^^^ (-1)) (hy : ¬ y = 0) (hL : 0 ≤ L.toInt) (hn : n' = L.toInt + 1) : zto tu ta set P n' := by
  intro l h1 h2 h3 r h4 h5
  by_cases q : l = L.toNatClampNeg
  · exfalso
    rw [q, znI hL] at h3
    rw [ey, ez] at hy; exact hy h3
  · have c1 := zcl L hL
    exact h l (by omega) h2 h3 r h4 h5
theorem zmi_0 {tu ta : Nat → Int32} {n : Int} {l r : Nat} {v : Int} (h : l ≠ 0 → v = 10000) : zmi tu ta n l r v := fun h0 h1 => by have := h h0; omega
theorem zmi_k {tu ta : Nat → Int32} {n n' : Int} {l r : Nat} {v : Int} (h : zmi tu ta n l r v) (k : n ≤ n') : zmi tu ta n' l r v := by
  intro h0 h1
  obtain ⟨q, q1, q2⟩ := h h0 h1
  exact ⟨q, by omega, q2⟩
theorem zmi_s {tu ta : Nat → Int32} {n n' : Int} {L R Q i x y s v v' c : Int32} (h : zmi tu ta n L.toNatClampNeg R.toNatClampNeg v.toInt) (hL : zB L 0 255) (hR : zB R 0 7) (hQ : zB Q 0 7) (hz : zhs L Q) (ex : x = ta (8 * R.toNatClampNeg + Q.toNatClampNeg)) (ey : y = tu i.toNatClampNeg) (ec : c = L &&& (((1 : Int32) <<< (Q &&& 31)) ^^^ (-1))) (hi : i.toInt = 8 * c.toInt + Q.toInt) (es : s.toInt = x.toInt + y.toInt) (ev : v'.toInt = v.toInt ∨ v'.toInt = s.toInt) (hn : n' = Q.toInt + 1) (hnn : n = Q.toInt) : zmi tu ta n' L.toNatClampNeg R.toNatClampNeg v'.toInt := by
  rcases ev with ev | ev
  · rw [ev]; exact zmi_k h (by omega)
  · intro h0 h1
    have l0 := hL.1; have l1 := hL.2; have r0 := hR.1; have r1 := hR.2; have k0 := hQ.1; have k1 := hQ.2
    have c1 := zcl L l0; have c2 := zcl R r0; have c3 := zcl Q k0
    obtain ⟨a1, a2, -⟩ := zclrB hL hQ hz
    rw [← ec] at a1
    have c4 := zcl i (by omega)
    have cc : ((2 ^ Q.toNatClampNeg : Nat) : Int) = (2 : Int) ^ Q.toNatClampNeg := by simp
    refine ⟨Q.toNatClampNeg, by omega, by omega, ?_, ?_⟩
    · rw [znI l0, znI k0]; exact hz
    · rw [show 8 * (L.toNatClampNeg - 2 ^ Q.toNatClampNeg) + Q.toNatClampNeg = i.toNatClampNeg by omega, ← ex, ← ey]
      omega
/-- a room to go to is there, no less than q -/
def zfx (tu ta : Nat → Int32) (P : Int) (L K : Int32) (q : Int) : Prop := ∃ j : Int32, zB j 0 7 ∧ j.toInt < P ∧ q ≤ j.toInt ∧ zhs L j ∧ (ta (8 * K.toNatClampNeg + j.toNatClampNeg)).toInt + (tu (8 * (L.toNatClampNeg - 2 ^ j.toNatClampNeg) + j.toNatClampNeg)).toInt = (tu (8 * L.toNatClampNeg + K.toNatClampNeg)).toInt
theorem zfx_i {tu ta : Nat → Int32} {set : Int32} {P n : Int} {L K : Int32} (h : zto tu ta set P n) (hL : zB L 0 255) (hn : L.toInt < n) (h0 : ¬ L = 0) (hs : L &&& (set ^^^ (-1)) = 0) (hK : zB K 0 7) (hKP : K.toInt < P) (hv : (tu (8 * L.toNatClampNeg + K.toNatClampNeg)).toInt < 10000) : zfx tu ta P L K 0 := by
  have l0 := hL.1; have l1 := hL.2; have r0 := hK.1; have r1 := hK.2
  have c1 := zcl L l0; have c2 := zcl K r0
  have hne : L.toNatClampNeg ≠ 0 := by
    intro z
    exact h0 (Int32.toInt_inj.mp (by rw [show (0 : Int32).toInt = 0 from by decide]; omega))
  obtain ⟨q, q1, q2, q3, q4⟩ := h L.toNatClampNeg (by omega) (by omega) (by rw [znI l0]; exact hs) K.toNatClampNeg (by omega) (by omega) hne hv
  have qi := nI_toInt (n := q) (by omega)
  have qc := nI_clamp (n := q) (by omega)
  rw [znI l0] at q3
  exact ⟨nI q, ⟨by omega, by omega⟩, by omega, by omega, q3, by rw [qc]; exact q4⟩
theorem zfx_le {tu ta : Nat → Int32} {P : Int} {L K : Int32} {q : Int} (h : zfx tu ta P L K q) : q ≤ 7 ∧ q < P := by
  obtain ⟨j, j1, j2, j3, j4, j5⟩ := h
  have := j1.2
  exact ⟨by omega, by omega⟩
theorem zfx_1 {tu ta : Nat → Int32} {P : Int} {L K q q' : Int32} (h : zfx tu ta P L K q.toInt) (nh : ¬ zhs L q) (hq : q'.toInt = q.toInt + 1) : zfx tu ta P L K q'.toInt := by
  obtain ⟨j, j1, j2, j3, j4, j5⟩ := h
  refine ⟨j, j1, j2, ?_, j4, j5⟩
  by_cases z : j.toInt = q.toInt
  · obtain rfl := Int32.toInt_inj.mp z
    exact absurd j4 nh
  · omega
theorem zfx_2 {tu ta : Nat → Int32} {P : Int} {L K q q' i i2 x y c w : Int32} (h : zfx tu ta P L K q.toInt) (hL : zB L 0 255) (hK : zB K 0 7) (hQ : zB q 0 7) (hz : zhs L q) (ex : x = ta (8 * K.toNatClampNeg + q.toNatClampNeg)) (ey : y = tu i.toNatClampNeg) (ec : c = L &&& (((1 : Int32) <<< (q &&& 31)) ^^^ (-1))) (hi : i.toInt = 8 * c.toInt + q.toInt) (ew : w = tu i2.toNatClampNeg) (hw : i2.toInt = 8 * L.toInt + K.toInt) (ne : x.toInt + y.toInt ≠ w.toInt) (hq : q'.toInt = q.toInt + 1) : zfx tu ta P L K q'.toInt := by
  obtain ⟨o, j1, j2, j3, j4, j5⟩ := h
  refine ⟨o, j1, j2, ?_, j4, j5⟩
  by_cases z : o.toInt = q.toInt
  · exfalso
    obtain rfl := Int32.toInt_inj.mp z
    have l0 := hL.1; have r0 := hK.1; have k0 := hQ.1
    have c1 := zcl L l0; have c2 := zcl K r0; have c3 := zcl o k0
    obtain ⟨a1, a2, -⟩ := zclrB hL hQ hz
    rw [← ec] at a1
    have c4 := zcl i (by omega); have c6 := zcl i2 (by omega)
    have cc : ((2 ^ o.toNatClampNeg : Nat) : Int) = (2 : Int) ^ o.toNatClampNeg := by simp
    rw [show 8 * (L.toNatClampNeg - 2 ^ o.toNatClampNeg) + o.toNatClampNeg = i.toNatClampNeg by omega, show 8 * L.toNatClampNeg + K.toNatClampNeg = i2.toNatClampNeg by omega, ← ex, ← ey, ← ew] at j5
    exact ne j5
  · omega
/-- a room is left out of a set -/
theorem zsub_s {L q c set : Int32} (ec : c = L &&& (((1 : Int32) <<< (q &&& 31)) ^^^ (-1))) (hs : L &&& (set ^^^ (-1)) = 0) : c &&& (set ^^^ (-1)) = 0 := by
  subst ec
  rw [Int32.and_assoc, Int32.and_comm (((1 : Int32) <<< (q &&& 31)) ^^^ (-1)), ← Int32.and_assoc, hs]
  exact Int32.zero_and
theorem zsub_0 {L : Int32} : L &&& (L ^^^ (-1)) = 0 := by
  apply Int32.toBitVec_inj.mp
  rw [Int32.toBitVec_and, Int32.toBitVec_xor]
  show L.toBitVec &&& (L.toBitVec ^^^ BitVec.allOnes 32) = 0#32
  rw [BitVec.xor_allOnes, BitVec.and_not_self]
  rfl
theorem zidx {f : Nat → Int32} {a b i : Int32} (ha : 0 ≤ a.toInt) (hb : 0 ≤ b.toInt) (hi : i.toInt = 8 * a.toInt + b.toInt) : f (8 * a.toNatClampNeg + b.toNatClampNeg) = f i.toNatClampNeg := by
  have c1 := zcl a ha; have c2 := zcl b hb; have c3 := zcl i (by omega)
  rw [show 8 * a.toNatClampNeg + b.toNatClampNeg = i.toNatClampNeg by omega]
