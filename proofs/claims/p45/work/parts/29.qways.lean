/-! the rooms behind a room's doors -/
def zbh (on ot : Nat → Int32) (b : Nat) (r : Int32) (but n : Int) (set : Int32) : Prop := ∀ e : Nat, (e : Int) < n → (e : Int) ≠ but → (on (12 * b + e) = r → zhs set (ot (12 * b + e))) ∧ (ot (12 * b + e) = r → zhs set (on (12 * b + e)))
def zbu (on ot : Nat → Int32) (b : Nat) (n : Int) (set : Int32) : Prop := ∀ N : Int, (∀ e : Nat, (e : Int) < n → (on (12 * b + e)).toInt < N ∧ (ot (12 * b + e)).toInt < N) → ∀ j : Int32, 0 ≤ j.toInt → j.toInt ≤ 7 → zhs set j → j.toInt < N
theorem zhs_set {s y t o : Int32} (e1 : y = s ||| t) (e2 : t = (1 : Int32) <<< (o &&& 31)) (ho : zB o 0 7) : zhs y o := by
  have p1 := ho.1; have p2 := ho.2
  subst e1; subst e2
  exact (zhs_or (by omega) (by omega)).mpr (Or.inr ((zhs_1 p1 p2 p1 p2).mpr rfl))
theorem zhs_keep {s y t k : Int32} (e1 : y = s ||| t) (h0 : 0 ≤ k.toInt) (h1 : k.toInt ≤ 7) (h : zhs s k) : zhs y k := by
  subst e1
  exact (zhs_or h0 (by omega)).mpr (Or.inl h)
theorem zhs_inv {s y t o k : Int32} (e1 : y = s ||| t) (e2 : t = (1 : Int32) <<< (o &&& 31)) (ho : zB o 0 7) (h0 : 0 ≤ k.toInt) (h1 : k.toInt ≤ 7) (h : zhs y k) : zhs s k ∨ k = o := by
  have p1 := ho.1; have p2 := ho.2
  subst e1; subst e2
  rcases (zhs_or h0 (by omega)).mp h with q | q
  · exact Or.inl q
  · exact Or.inr ((zhs_1 h0 h1 p1 p2).mp q)
theorem zbh_0 {on ot : Nat → Int32} {b : Nat} {r : Int32} {but n : Int} {set : Int32} (h : n ≤ 0) : zbh on ot b r but n set := fun e he => by omega
theorem zbh_m {on ot : Nat → Int32} {b : Nat} {r : Int32} {but n n' : Int} {set : Int32} (h : zbh on ot b r but n set) (k : n' ≤ n) : zbh on ot b r but n' set := fun e he => h e (by omega)
theorem zbh_s {on ot : Nat → Int32} {b : Nat} {r : Int32} {but n n' : Int} {s s' d : Int32} (h : zbh on ot b r but n s) (hon : zA on 0 24 0 7) (hot : zA ot 0 24 0 7) (hb : b ≤ 1) (hd0 : 0 ≤ d.toInt) (hd1 : d.toInt ≤ 11) (hn : n = d.toInt) (hn' : n' = d.toInt + 1) (sub : ∀ k : Int32, 0 ≤ k.toInt → k.toInt ≤ 7 → zhs s k → zhs s' k) (c1 : d.toInt ≠ but → on (12 * b + d.toNatClampNeg) = r → zhs s' (ot (12 * b + d.toNatClampNeg))) (c2 : d.toInt ≠ but → ot (12 * b + d.toNatClampNeg) = r → zhs s' (on (12 * b + d.toNatClampNeg))) : zbh on ot b r but n' s' := by
  have cd := zcl d hd0
  intro e he hne
  by_cases q : e = d.toNatClampNeg
  · subst q; exact ⟨c1 (by omega), c2 (by omega)⟩
  · have h1 := h e (by omega) hne
    have p1 := hon (12 * b + e) (Nat.zero_le _) (by omega)
    have p2 := hot (12 * b + e) (Nat.zero_le _) (by omega)
    exact ⟨fun z => sub _ p2.1 p2.2 (h1.1 z), fun z => sub _ p1.1 p1.2 (h1.2 z)⟩
theorem zbu_0 {on ot : Nat → Int32} {b : Nat} {n : Int} : zbu on ot b n 0 := fun N _ j h0 h1 h => absurd h (zhs_0 h0 (by omega))
theorem zbu_k {on ot : Nat → Int32} {b : Nat} {n n' : Int} {s : Int32} (h : zbu on ot b n s) (k : n ≤ n') : zbu on ot b n' s := fun N hN => h N (fun e he => hN e (by omega))
theorem zbu_a {on ot : Nat → Int32} {b : Nat} {n : Int} {s y t o d : Int32} (h : zbu on ot b n s) (e1 : y = s ||| t) (e2 : t = (1 : Int32) <<< (o &&& 31)) (ho : zB o 0 7) (hd0 : 0 ≤ d.toInt) (hd : d.toInt < n) (e3 : o = on (12 * b + d.toNatClampNeg) ∨ o = ot (12 * b + d.toNatClampNeg)) : zbu on ot b n y := by
  have cd := zcl d hd0
  intro N hN j h0 h1 hz
  rcases zhs_inv e1 e2 ho h0 h1 hz with q | q
  · exact h N hN j h0 h1 q
  · have := hN d.toNatClampNeg (by omega)
    rcases e3 with e3 | e3
    · rw [q, e3]; exact this.1
    · rw [q, e3]; exact this.2
/-! a goal's numbers -/
def zgi (f : Nat → Int32) (g n : Int) : Prop := ∀ j : Nat, (j : Int) < n → (f j).toInt = if (j : Int) = g then 0 else 10000
theorem zgi_s {f f' : Nat → Int32} {g n : Int} {d v : Int32} (h : zgi f g n) (e : f' = upd f d.toNatClampNeg v) (h0 : 0 ≤ d.toInt) (hn : n = d.toInt) (n' : Int) (hn' : n' = d.toInt + 1) (hv : (d.toInt = g ∧ v.toInt = 0) ∨ (d.toInt ≠ g ∧ v.toInt = 10000)) : zgi f' g n' := by
  subst e
  have cd := zcl d h0
  intro j hj
  by_cases q : j = d.toNatClampNeg
  · subst q
    rw [pk_us]
    rcases hv with ⟨k1, k2⟩ | ⟨k1, k2⟩
    · rw [if_pos (by omega)]; exact k2
    · rw [if_neg (by omega)]; exact k2
  · rw [pk_un q]; exact h j (by omega)
theorem zgi_g {f : Nat → Int32} {x : Int32} {n : Int} (h : zgi f x.toInt n) (hn : 8 ≤ n) (hx : zB x 0 7) : (f x.toNatClampNeg).toInt = 0 := by
  have c := zclamp hx (by decide)
  have p := hx.2
  rw [h _ (by omega), if_pos (by omega)]
theorem zgi_n {f wt on ot : Nat → Int32} {b : Nat} {g n m : Int} (h : zgi f g n) (hn : 8 ≤ n) : zgn f wt on ot b m g := by
  intro a ha hg hlt
  rw [h a (by omega), if_neg hg] at hlt
  omega
theorem zgf_0 {tg wt on ot : Nat → Int32} {b : Nat} {n : Int} {cl : Int32} (h : n ≤ 0) : zgf tg wt on ot b n cl := fun e he => by omega
theorem zS_0 {f : Nat → Int32} {a b : Int} (h : zA f 0 8 a b) (ha : 0 ≤ a) (hb : b ≤ 10000) : 0 ≤ zS f ∧ zS f ≤ 80000 := by
  have k : ∀ j, j < 8 → 0 ≤ (f j).toInt ∧ (f j).toInt ≤ 10000 := fun j hj => ⟨Int.le_trans ha (h j (Nat.zero_le _) hj).1, Int.le_trans (h j (Nat.zero_le _) hj).2 hb⟩
  have h0 := k 0 (by decide); have h1 := k 1 (by decide); have h2 := k 2 (by decide); have h3 := k 3 (by decide); have h4 := k 4 (by decide); have h5 := k 5 (by decide); have h6 := k 6 (by decide); have h7 := k 7 (by decide)
  unfold zS; omega
theorem zgg_up {f f' : Nat → Int32} {a g : Nat} {v : Int32} (h : (f g).toInt = 0) (e : f' = upd f a v) (hv : v.toInt < (f a).toInt) (h0 : 0 ≤ v.toInt) : (f' g).toInt = 0 := by
  subst e
  by_cases q : g = a
  · subst q; omega
  · rw [pk_un q]; exact h
theorem zd_e {on ot : Nat → Int32} {b : Nat} {k h r r' h' : Int32} (hk : 0 ≤ k.toInt) (hp : k.toInt % 2 = 0) (e1 : r = on (12 * b + h.toNatClampNeg)) (eh : h.toInt = k.toInt / 2) (e2 : r' = ot (12 * b + h'.toNatClampNeg)) (eh' : h'.toInt = k.toInt / 2) : zda on ot b k.toNatClampNeg = r.toNatClampNeg ∧ zdb on ot b k.toNatClampNeg = r'.toNatClampNeg := by
  have c1 := zcl k hk; have c2 := zcl h (by omega); have c3 := zcl h' (by omega)
  subst e1; subst e2
  unfold zda zdb
  rw [if_pos (by omega), if_pos (by omega), show k.toNatClampNeg / 2 = h.toNatClampNeg by omega, show h'.toNatClampNeg = h.toNatClampNeg by omega]
  exact ⟨rfl, rfl⟩
theorem zd_o {on ot : Nat → Int32} {b : Nat} {k h r r' h' : Int32} (hk : 0 ≤ k.toInt) (hp : k.toInt % 2 ≠ 0) (e1 : r = ot (12 * b + h.toNatClampNeg)) (eh : h.toInt = k.toInt / 2) (e2 : r' = on (12 * b + h'.toNatClampNeg)) (eh' : h'.toInt = k.toInt / 2) : zda on ot b k.toNatClampNeg = r.toNatClampNeg ∧ zdb on ot b k.toNatClampNeg = r'.toNatClampNeg := by
  have c1 := zcl k hk; have c2 := zcl h (by omega); have c3 := zcl h' (by omega)
  subst e1; subst e2
  unfold zda zdb
  rw [if_neg (by omega), if_neg (by omega), show k.toNatClampNeg / 2 = h.toNatClampNeg by omega, show h'.toNatClampNeg = h.toNatClampNeg by omega]
  exact ⟨rfl, rfl⟩
theorem zclt {x : Int32} (h : zB x 0 7) : x.toNatClampNeg < 8 := by
  have c := zclamp h (by decide); have := h.2; omega
/-- from a room goes a door on, to a room no less than q -/
def zex (tg wt on ot : Nat → Int32) (b : Nat) (n : Int) (k : Nat) (q : Int) : Prop := ∃ e : Nat, (e : Int) < n ∧ zda on ot b e = k ∧ (tg (zdb on ot b e)).toInt + (wt (zdb on ot b e)).toInt = (tg k).toInt ∧ q ≤ (zdb on ot b e : Int) ∧ zdb on ot b e < 8
theorem zex_i {tg wt on ot : Nat → Int32} {b : Nat} {n goal : Int} {k : Nat} (h : zgn tg wt on ot b n goal) (f : zgf tg wt on ot b n 0) (hon : zA on 0 24 0 7) (hot : zA ot 0 24 0 7) (hb : b ≤ 1) (hn : n ≤ 24) (ha : k < 8) (hg : (k : Int) ≠ goal) (ht : (tg k).toInt < 10000) : zex tg wt on ot b n k 0 := by
  obtain ⟨e, k1, k2, k3⟩ := h k ha hg ht
  have p1 := hon (12 * b + e / 2) (Nat.zero_le _) (by omega)
  have p2 := hot (12 * b + e / 2) (Nat.zero_le _) (by omega)
  have bb : zdb on ot b e < 8 := by
    unfold zdb; split
    · exact zclt p2
    · exact zclt p1
  have hnn : ∀ j, j < 8 → ¬ zhs 0 (nI j) := by
    intro j hj
    have := nI_toInt (n := j) (by omega)
    exact zhs_0 (by omega) (by omega)
  have := f e k1 (hnn _ (by rw [k2]; exact ha)) (hnn _ bb)
  rw [k2] at this
  exact ⟨e, k1, k2, by omega, by omega, bb⟩
theorem zex_le {tg wt on ot : Nat → Int32} {b : Nat} {n : Int} {k : Nat} {q : Int} (h : zex tg wt on ot b n k q) : q ≤ 7 := by
  obtain ⟨e, k1, k2, k3, k4, k5⟩ := h
  omega
theorem zex_1 {tg wt on ot : Nat → Int32} {b : Nat} {n dn : Int} {k q q' r : Int32} (h : zex tg wt on ot b n k.toNatClampNeg q.toInt) (hn : n = 2 * dn) (hon : zA on 0 24 0 7) (hot : zA ot 0 24 0 7) (hb : b ≤ 1) (hd : dn ≤ 12) (hk : zB k 0 7) (hq : 0 ≤ q.toInt) (bh : zbh on ot b k (-1) dn r) (nh : ¬ zhs r q) (hq' : q'.toInt = q.toInt + 1) : zex tg wt on ot b n k.toNatClampNeg q'.toInt := by
  obtain ⟨e, k1, k2, k3, k4, k5⟩ := h
  refine ⟨e, k1, k2, k3, ?_, k5⟩
  have cq := zcl q hq
  have p1 := hon (12 * b + e / 2) (Nat.zero_le _) (by omega)
  have p2 := hot (12 * b + e / 2) (Nat.zero_le _) (by omega)
  by_cases z : (zdb on ot b e : Int) = q.toInt
  · exfalso
    have bb := bh (e / 2) (by omega) (by omega)
    unfold zda at k2
    unfold zdb at z
    split at k2
    · next par =>
      rw [if_pos par] at z
      have c1 := zclamp p1 (by decide); have c2 := zclamp p2 (by decide); have c3 := zclamp hk (by decide)
      have e1 : on (12 * b + e / 2) = k := Int32.toInt_inj.mp (by omega)
      have e2 : ot (12 * b + e / 2) = q := Int32.toInt_inj.mp (by omega)
      have := bb.1 e1
      rw [e2] at this; exact nh this
    · next par =>
      rw [if_neg par] at z
      have c1 := zclamp p1 (by decide); have c2 := zclamp p2 (by decide); have c3 := zclamp hk (by decide)
      have e1 : ot (12 * b + e / 2) = k := Int32.toInt_inj.mp (by omega)
      have e2 : on (12 * b + e / 2) = q := Int32.toInt_inj.mp (by omega)
      have := bb.2 e1
      rw [e2] at this; exact nh this
  · omega
theorem zex_2 {tg wt on ot : Nat → Int32} {b : Nat} {n : Int} {k : Nat} {q q' : Int32} (h : zex tg wt on ot b n k q.toInt) (hq : 0 ≤ q.toInt) (ne : (tg q.toNatClampNeg).toInt + (wt q.toNatClampNeg).toInt ≠ (tg k).toInt) (hq' : q'.toInt = q.toInt + 1) : zex tg wt on ot b n k q'.toInt := by
  obtain ⟨e, k1, k2, k3, k4, k5⟩ := h
  refine ⟨e, k1, k2, k3, ?_, k5⟩
  have cq := zcl q hq
  by_cases z : zdb on ot b e = q.toNatClampNeg
  · exfalso; rw [z] at k3; exact ne k3
  · omega
def zW (wt : Nat → Int32) (n : Int) : Prop := ∀ j : Nat, (j : Int) < n → 1 ≤ (wt j).toInt
theorem zW_s {f f' : Nat → Int32} {n n' : Int} {d v : Int32} (h : zW f n) (e : f' = upd f d.toNatClampNeg v) (h0 : 0 ≤ d.toInt) (hn : n = d.toInt) (hn' : n' = d.toInt + 1) (hv : 1 ≤ v.toInt) : zW f' n' := by
  subst e
  have cd := zcl d h0
  intro j hj
  by_cases q : j = d.toNatClampNeg
  · subst q; rw [pk_us]; exact hv
  · rw [pk_un q]; exact h j (by omega)
theorem zW_m {f : Nat → Int32} {n n' : Int} (h : zW f n) (k : n' ≤ n) : zW f n' := fun j hj => h j (by omega)
/-- the next room on a way has a less number -/
theorem zdn {wt on ot dn ro : Nat → Int32} {b : Nat} {r q : Int32} (hW : zW wt (ro b).toInt) (hD : zdr dn on ot ro b) (hu : zbu on ot b (dn b).toInt r) (hq : zB q 0 7) (hz : zhs r q) : 1 ≤ (wt q.toNatClampNeg).toInt := by
  have p1 := hq.1; have c := zclamp hq (by decide)
  have := hu (ro b).toInt (fun e he => hD e he) q p1 hq.2 hz
  exact hW _ (by omega)
theorem zgi_z {f : Nat → Int32} {g n : Int} (h : zgi f g n) (hn : 8 ≤ n) : zA f 0 8 0 10000 := by
  intro j _ hj
  have := h j (by omega)
  unfold zB
  rw [this]
  split <;> exact ⟨by decide, by decide⟩
theorem ic_0 {ew : Nat → Int32} {v y : Int32} {a b : Int} (h : zB v a b) (h0 : 0 ≤ a) (e : y = ew v.toNatClampNeg) (e0 : (ew 0).toInt = 8) (hy : y.toInt ≤ 7) : 1 ≤ v.toInt := by
  have c := zclamp h h0; have p := h.1
  rcases Nat.eq_zero_or_pos v.toNatClampNeg with q | q
  · rw [q] at e; subst e; omega
  · omega
theorem eJ_init2 {r fk un wi : Int} {ew ew' es es' cd : Nat → Int32} {pi co : Int32} {y : Int32} (e1 : ew' = upd ew (0 : Int32).toNatClampNeg 8) (e2 : es' = upd es (0 : Int32).toNatClampNeg y) (ek : pi.toInt = 1) (h0 : 0 ≤ co.toInt) (hr : r = 1) (hu : un = 0) (hw : wi = 0) : eJ r fk ew' es' cd co.toNatClampNeg pi co un wi := by
  subst hr; subst hu; subst hw
  exact eJ_init e1 e2 ek h0
