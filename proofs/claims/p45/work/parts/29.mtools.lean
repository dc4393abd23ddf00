/-! the reference: signs, progress, the pile of what is open, the steps that come of it -/
def zsg (tx : Nat → Int32) (sz k : Int32) : Int32 := if k.toInt < sz.toInt then tx k.toNatClampNeg &&& 255 else 0
def zM (en tk : Int32) : Int := if tk.toInt = 0 then 0 else 2 * (1600 - en.toInt) + 1
theorem zM_2 {en tk en' tk' : Int32} (h1 : en.toInt ≤ 1600) (h2 : tk'.toInt = 0 ∨ en.toInt + 1 ≤ en'.toInt) : tk.toInt ≠ 0 → zM en' tk' + 1 ≤ zM en tk := by
  intro h
  unfold zM
  rw [if_neg h]
  split <;> omega
def zdl (x : Int32) : Int := if x.toInt = 126 then 0 else if 97 ≤ x.toInt ∧ x.toInt ≤ 122 then 1 else -1
def zdep (cd : Nat → Int32) (a : Nat) : Nat → Int
  | 0 => 0
  | n + 1 => zdep cd a n + zdl (cd (a + n))
def zcOK (cd : Nat → Int32) (a n : Nat) : Prop := (∀ j, j ≤ n → 0 ≤ zdep cd a j ∧ zdep cd a j ≤ 59) ∧ ∀ j, j < n → ((cd (a + j)).toInt = 126 → 1 ≤ zdep cd a j) ∧ (zdl (cd (a + j)) = -1 → 2 ≤ zdep cd a j)
theorem zdep_cg {cd cd' : Nat → Int32} {a n : Nat} (h : ∀ j, j < n → cd' (a + j) = cd (a + j)) : zdep cd' a n = zdep cd a n := by
  induction n with
  | zero => rfl
  | succ n ih =>
    show zdep cd' a n + zdl (cd' (a + n)) = zdep cd a n + zdl (cd (a + n))
    rw [ih (fun j hj => h j (by omega)), h n (by omega)]
theorem zcOK_cg {cd cd' : Nat → Int32} {a n : Nat} (h : ∀ j, j < n → cd' (a + j) = cd (a + j)) (k : zcOK cd a n) : zcOK cd' a n := by
  refine ⟨fun j hj => ?_, fun j hj => ?_⟩
  · rw [zdep_cg (fun i hi => h i (by omega))]; exact k.1 j hj
  · rw [zdep_cg (fun i hi => h i (by omega)), h j hj]; exact k.2 j hj
theorem zcOK_sn {cd : Nat → Int32} {a n : Nat} (k : zcOK cd a n) (h1 : (cd (a + n)).toInt = 126 → 1 ≤ zdep cd a n) (h2 : zdl (cd (a + n)) = -1 → 2 ≤ zdep cd a n) (h3 : 0 ≤ zdep cd a n + zdl (cd (a + n)) ∧ zdep cd a n + zdl (cd (a + n)) ≤ 59) : zcOK cd a (n + 1) := by
  refine ⟨fun j hj => ?_, fun j hj => ?_⟩
  · by_cases e : j = n + 1
    · subst e; exact h3
    · exact k.1 j (by omega)
  · by_cases e : j = n
    · subst e; exact ⟨h1, h2⟩
    · exact k.2 j (by omega)
def zoE (x y : Int32) : Prop := (x.toInt = 3 → y.toInt = 126) ∧ (1 ≤ x.toInt → x.toInt ≤ 6 → x.toInt ≠ 3 → zdl y = -1)
def zbi (x : Int32) : Int := if 1 ≤ x.toInt ∧ x.toInt ≤ 6 ∧ x.toInt ≠ 3 then 1 else 0
def zbc (ew : Nat → Int32) : Nat → Int
  | 0 => 0
  | n + 1 => zbc ew n + zbi (ew n)
theorem zbc_cg {ew ew' : Nat → Int32} {n : Nat} (h : ∀ j, j < n → ew' j = ew j) : zbc ew' n = zbc ew n := by
  induction n with
  | zero => rfl
  | succ n ih =>
    show zbc ew' n + zbi (ew' n) = zbc ew n + zbi (ew n)
    rw [ih (fun j hj => h j (by omega)), h n (by omega)]
theorem zbi_0 (x : Int32) : 0 ≤ zbi x := by unfold zbi; split <;> omega
theorem zbc_0 (ew : Nat → Int32) (n : Nat) : 0 ≤ zbc ew n := by
  induction n with
  | zero => exact Int.le_refl _
  | succ n ih =>
    show 0 ≤ zbc ew n + zbi (ew n)
    have := zbi_0 (ew n); omega
def zwi (x : Int32) : Int := if x.toInt = 3 ∨ x.toInt = 7 then 1 else 0
def zwc (ew : Nat → Int32) : Nat → Int
  | 0 => 0
  | n + 1 => zwc ew n + zwi (ew n)
theorem zwc_cg {ew ew' : Nat → Int32} {n : Nat} (h : ∀ j, j < n → ew' j = ew j) : zwc ew' n = zwc ew n := by
  induction n with
  | zero => rfl
  | succ n ih =>
    show zwc ew' n + zwi (ew' n) = zwc ew n + zwi (ew n)
    rw [ih (fun j hj => h j (by omega)), h n (by omega)]
theorem zwi_0 (x : Int32) : 0 ≤ zwi x := by unfold zwi; split <;> omega
theorem zwc_0 (ew : Nat → Int32) (n : Nat) : 0 ≤ zwc ew n := by
  induction n with
  | zero => exact Int.le_refl _
  | succ n ih =>
    show 0 ≤ zwc ew n + zwi (ew n)
    have := zwi_0 (ew n); omega
def zPr (cd gc : Nat → Int32) (a : Nat) : Prop := ∀ j, (j < a ∨ a + 300 ≤ j) → cd j = gc j
theorem zPr_up {cd cd' gc : Nat → Int32} {a : Nat} {co x : Int32} (h : zPr cd gc a) (e : cd' = upd cd co.toNatClampNeg x) (h0 : 0 ≤ co.toInt) (h1 : (a : Int) ≤ co.toInt) (h2 : co.toInt < a + 300) : zPr cd' gc a := by
  subst e
  have hc := zclamp (a := 0) (b := 2147483647) ⟨h0, (zB_top co).2⟩ (by decide)
  intro j hj
  rw [pk_un (show j ≠ co.toNatClampNeg by omega)]; exact h j hj
def eI (ew es cd : Nat → Int32) (a pi co : Nat) (un wi w : Int) : Prop :=
  (0 < pi → (ew 0).toInt = 8) ∧ (∀ i, i < pi → 1 ≤ (ew i).toInt ∧ zoE (ew i) (es i)) ∧ a ≤ co ∧ wi = zwc ew pi ∧ zcOK cd a (co - a) ∧ zdep cd a (co - a) = zbc ew pi + w ∧ zdep cd a (co - a) ≤ un
theorem eI_push {ew es ew' es' cd : Nat → Int32} {a pi co : Nat} {un un' wi wi' w w' : Int} {x y : Int32} (h : eI ew es cd a pi co un wi w) (e1 : ew' = upd ew pi x) (e2 : es' = upd es pi y) (h0 : 0 < pi) (hx : 1 ≤ x.toInt) (hy : zoE x y) (hw : w = zbi x + w') (hwi : wi' = wi + zwi x) (hu : un ≤ un') : eI ew' es' cd a (pi + 1) co un' wi' w' := by
  subst e1; subst e2
  obtain ⟨q1, q2, q3, q4, q5, q6, q7⟩ := h
  refine ⟨fun _ => ?_, fun i hi => ?_, q3, ?_, q5, ?_, by omega⟩
  · rw [pk_un (show (0 : Nat) ≠ pi by omega)]; exact q1 h0
  · by_cases e : i = pi
    · subst e; rw [pk_us, pk_us]; exact ⟨hx, hy⟩
    · rw [pk_un e, pk_un e]; exact q2 i (by omega)
  · show _ = zwc (upd ew pi x) pi + zwi (upd ew pi x pi)
    rw [pk_us, zwc_cg (ew := ew) (fun j hj => pk_un (show j ≠ pi by omega)), ← q4]; exact hwi
  · show _ = zbc (upd ew pi x) pi + zbi (upd ew pi x pi) + w'
    rw [pk_us, zbc_cg (ew := ew) (fun j hj => pk_un (show j ≠ pi by omega)), q6]; omega
theorem eI_emit {ew es cd cd' : Nat → Int32} {a pi pi' co : Nat} {un un' wi wi' w w' : Int} {x : Int32} (h : eI ew es cd a pi co un wi w) (e1 : cd' = upd cd co x) (hp : pi' ≤ pi) (h1 : x.toInt = 126 → 1 ≤ zbc ew pi + w) (h2 : zdl x = -1 → 2 ≤ zbc ew pi + w) (h3 : zbc ew pi + w + zdl x = zbc ew pi' + w') (h5 : 0 ≤ w') (hwi : wi' = zwc ew pi') (hu : zbc ew pi + w + zdl x ≤ un') (hu2 : un' ≤ 59) : eI ew es cd' a pi' (co + 1) un' wi' w' := by
  subst e1
  obtain ⟨q1, q2, q3, q4, q5, q6, q7⟩ := h
  have hz := zbc_0 ew pi'
  have eo : co + 1 - a = (co - a) + 1 := by omega
  have ea : a + (co - a) = co := by omega
  have cg : ∀ j, j < co - a → upd cd co x (a + j) = cd (a + j) := fun j hj => pk_un (show a + j ≠ co by omega)
  have ed : zdep (upd cd co x) a (co - a) = zbc ew pi + w := by rw [zdep_cg cg]; exact q6
  have ed2 : zdep (upd cd co x) a (co + 1 - a) = zbc ew pi + w + zdl x := by
    rw [eo]
    show zdep (upd cd co x) a (co - a) + zdl (upd cd co x (a + (co - a))) = _
    rw [ed, ea, pk_us]
  refine ⟨fun h => q1 (by omega), fun i hi => q2 i (by omega), by omega, hwi, ?_, ?_, ?_⟩
  · rw [eo]
    refine zcOK_sn (zcOK_cg cg q5) ?_ ?_ ?_
    · rw [ed, ea, pk_us]; exact h1
    · rw [ed, ea, pk_us]; exact h2
    · rw [ed, ea, pk_us]; omega
  · rw [ed2]; omega
  · rw [ed2]; omega
theorem eI_pop {ew es cd : Nat → Int32} {a pi co : Nat} {un wi wi' w : Int} (h : eI ew es cd a (pi + 1) co un wi w) (hx : 7 ≤ (ew pi).toInt) (hwi : wi' = wi - zwi (ew pi)) : eI ew es cd a pi co un wi' w := by
  obtain ⟨q1, q2, q3, q4, q5, q6, q7⟩ := h
  have eb : zbc ew (pi + 1) = zbc ew pi + zbi (ew pi) := rfl
  have ew_ : zwc ew (pi + 1) = zwc ew pi + zwi (ew pi) := rfl
  have : zbi (ew pi) = 0 := by unfold zbi; rw [if_neg (by omega)]
  exact ⟨fun h => q1 (by omega), fun i hi => q2 i (by omega), q3, by omega, q5, by omega, q7⟩
theorem eI_popE {ew es cd cd' : Nat → Int32} {a pi co : Nat} {un wi wi' : Int} (h : eI ew es cd a (pi + 1) co un wi 1) (hx : (ew pi).toInt ≤ 6) (e1 : cd' = upd cd co (es pi)) (hwi : wi' = wi - (if (ew pi).toInt = 3 then 1 else 0)) (hu2 : un ≤ 59) : eI ew es cd' a pi (co + 1) un wi' 1 := by
  have q := h
  obtain ⟨q1, q2, q3, q4, q5, q6, q7⟩ := q
  obtain ⟨o1, o2⟩ := q2 pi (by omega)
  have hz := zbc_0 ew pi
  have eb : zbc ew (pi + 1) = zbc ew pi + zbi (ew pi) := rfl
  have ew_ : zwc ew (pi + 1) = zwc ew pi + zwi (ew pi) := rfl
  by_cases e3 : (ew pi).toInt = 3
  · have s3 := o2.1 e3
    have z : zbi (ew pi) = 0 := by unfold zbi; rw [if_neg (by omega)]
    have zw : zwi (ew pi) = 1 := by unfold zwi; rw [if_pos (Or.inl e3)]
    have dz : zdl (es pi) = 0 := by unfold zdl; rw [if_pos s3]
    rw [if_pos e3] at hwi
    exact eI_emit h e1 (by omega) (fun _ => by omega) (fun k => by omega) (by omega) (by omega) (by omega) (by omega) hu2
  · have s3 := o2.2 o1 hx e3
    have z : zbi (ew pi) = 1 := by unfold zbi; rw [if_pos ⟨o1, hx, e3⟩]
    have zw : zwi (ew pi) = 0 := by unfold zwi; rw [if_neg (by omega)]
    rw [if_neg e3] at hwi
    exact eI_emit h e1 (by omega) (fun k => by unfold zdl at s3; rw [if_pos k] at s3; omega) (fun _ => by omega) (by omega) (by omega) (by omega) (by omega) hu2
theorem zcl (i : Int32) (h : 0 ≤ i.toInt) : (i.toNatClampNeg : Int) = i.toInt := zclamp (a := 0) (b := 2147483647) ⟨h, (zB_top i).2⟩ (by decide)
theorem zcl_s {i j : Int32} (h : 0 ≤ i.toInt) (e : j.toInt = i.toInt + 1) : j.toNatClampNeg = i.toNatClampNeg + 1 := by
  have := zcl i h; have := zcl j (by omega); omega
theorem zdl_l {x : Int32} (h : 97 ≤ x.toInt ∧ x.toInt ≤ 122) : zdl x = 1 := by unfold zdl; rw [if_neg (by omega), if_pos h]
theorem zdl_s {x : Int32} (h : x.toInt < 97 ∨ x.toInt = 124) : zdl x = -1 := by unfold zdl; rw [if_neg (by omega), if_neg (by omega)]
/-- all that holds between two steps of an e -/
def eJ (r fk : Int) (ew es cd : Nat → Int32) (a : Nat) (pi co : Int32) (un wi : Int) : Prop := fk = 0 → eI ew es cd a pi.toNatClampNeg co.toNatClampNeg un wi (1 - r) ∧ pi.toInt ≤ r + wi + un ∧ (r = 1 → co.toInt - a + pi.toInt ≤ 9 * un + wi + 1) ∧ (r = 0 → co.toInt - a + pi.toInt ≤ 9 * un)
theorem eJ_no {r fk : Int} {ew es cd : Nat → Int32} {a : Nat} {pi co : Int32} {un wi : Int} (h : fk ≠ 0) : eJ r fk ew es cd a pi co un wi := fun k => absurd k h
theorem eI_wi {ew es cd : Nat → Int32} {a pi co : Nat} {un wi w : Int} (h : eI ew es cd a pi co un wi w) : 0 ≤ wi := by
  obtain ⟨q1, q2, q3, q4, q5, q6, q7⟩ := h
  have := zwc_0 ew pi; omega
theorem eJ_push {fk : Int} {ew es ew' es' cd : Nat → Int32} {a : Nat} {pi pi' co : Int32} {un un' wi wi' : Int} {x y : Int32} (h : eI ew es cd a pi.toNatClampNeg co.toNatClampNeg un wi (1 - 1)) (e1 : ew' = upd ew pi.toNatClampNeg x) (e2 : es' = upd es pi.toNatClampNeg y) (ek : pi'.toInt = pi.toInt + 1) (h0 : 1 ≤ pi.toInt) (hx : (x.toInt = 3 ∧ y.toInt = 126) ∨ x.toInt = 7) (hu : un ≤ un') (hwi : wi' = wi + 1) (p1 : pi'.toInt ≤ 1 + wi' + un') (p2 : co.toInt - a + pi'.toInt ≤ 9 * un' + wi' + 1) : eJ 1 fk ew' es' cd a pi' co un' wi' := by
  intro _
  refine ⟨?_, p1, fun _ => p2, fun k => absurd k (by decide)⟩
  rw [zcl_s (by omega) ek]
  have hc := zcl pi (by omega)
  have z1 : zbi x = 0 := by unfold zbi; rw [if_neg (by omega)]
  have z2 : zwi x = 1 := by unfold zwi; rw [if_pos (by omega)]
  exact eI_push h e1 e2 (by omega) (by omega) ⟨fun k => by omega, fun _ k k2 => by omega⟩ (by omega) (by omega) hu
theorem eJ_bin {fk : Int} {ew es ew' es' cd : Nat → Int32} {a : Nat} {pi pi' co : Int32} {un wi : Int} {x y : Int32} (h : eI ew es cd a pi.toNatClampNeg co.toNatClampNeg un wi (1 - 0)) (e1 : ew' = upd ew pi.toNatClampNeg x) (e2 : es' = upd es pi.toNatClampNeg y) (ek : pi'.toInt = pi.toInt + 1) (h0 : 1 ≤ pi.toInt) (hx : 1 ≤ x.toInt ∧ x.toInt ≤ 6 ∧ x.toInt ≠ 3) (hy : y.toInt < 97 ∨ y.toInt = 124) (p1 : pi.toInt ≤ 0 + wi + un) (p2 : co.toInt - a + pi.toInt ≤ 9 * un) : eJ 1 fk ew' es' cd a pi' co un wi := by
  intro _
  have hw := eI_wi h
  refine ⟨?_, by omega, fun _ => by omega, fun k => absurd k (by decide)⟩
  rw [zcl_s (by omega) ek]
  have hc := zcl pi (by omega)
  have z1 : zbi x = 1 := by unfold zbi; rw [if_pos hx]
  have z2 : zwi x = 0 := by unfold zwi; rw [if_neg (by omega)]
  exact eI_push h e1 e2 (by omega) (by omega) ⟨fun k => by omega, fun _ _ _ => zdl_s hy⟩ (by omega) (by omega) (by omega)
theorem eJ_op {fk : Int} {ew es cd cd' : Nat → Int32} {a : Nat} {pi co co' : Int32} {un un' wi : Int} {x : Int32} (h : eI ew es cd a pi.toNatClampNeg co.toNatClampNeg un wi (1 - 1)) (e1 : cd' = upd cd co.toNatClampNeg x) (ek : co'.toInt = co.toInt + 1) (h0 : 0 ≤ co.toInt) (hx : 97 ≤ x.toInt ∧ x.toInt ≤ 122) (hu : un + 1 ≤ un') (hu2 : un' ≤ 30) (p1 : pi.toInt ≤ 0 + wi + un') (p2 : co'.toInt - a + pi.toInt ≤ 9 * un') : eJ 0 fk ew es cd' a pi co' un' wi := by
  intro _
  have q := h
  obtain ⟨q1, q2, q3, q4, q5, q6, q7⟩ := q
  refine ⟨?_, p1, fun k => absurd k (by decide), fun _ => p2⟩
  rw [zcl_s h0 ek]
  have z := zdl_l hx
  exact eI_emit h e1 (Nat.le_refl _) (fun k => by omega) (fun k => by omega) (by omega) (by omega) q4 (by omega) (by omega)
theorem eJ_init {fk : Int} {ew ew' es es' cd : Nat → Int32} {pi co : Int32} {y : Int32} (e1 : ew' = upd ew (0 : Int32).toNatClampNeg 8) (e2 : es' = upd es (0 : Int32).toNatClampNeg y) (ek : pi.toInt = 1) (h0 : 0 ≤ co.toInt) : eJ 1 fk ew' es' cd co.toNatClampNeg pi co 0 0 := by
  intro _
  have hc := zcl co h0
  have hp : pi.toNatClampNeg = 1 := by have := zcl pi (by omega); omega
  have e0 : (0 : Int32).toNatClampNeg = 0 := by decide
  rw [e0] at e1 e2
  subst e1; subst e2
  have z1 : zbi 8 = 0 := by decide
  have z2 : zwi 8 = 0 := by decide
  have b1 : zbc (upd ew 0 8) 1 = 0 := by show 0 + zbi (upd ew 0 8 0) = 0; rw [pk_us]; decide
  have b2 : zwc (upd ew 0 8) 1 = 0 := by show 0 + zwi (upd ew 0 8 0) = 0; rw [pk_us]; decide
  have d0 : zdep cd co.toNatClampNeg 0 = 0 := rfl
  refine ⟨?_, by omega, fun _ => by omega, fun k => absurd k (by decide)⟩
  rw [hp]
  refine ⟨fun _ => by rw [pk_us]; decide, fun i hi => ?_, Nat.le_refl _, b2.symm, ?_, ?_, ?_⟩
  · obtain rfl : i = 0 := by omega
    rw [pk_us, pk_us]
    exact ⟨by decide, fun k => absurd k (by decide), fun _ k => absurd k (by decide)⟩
  · rw [Nat.sub_self]
    refine ⟨fun j hj => ?_, fun j hj => absurd hj (Nat.not_lt_zero _)⟩
    obtain rfl : j = 0 := by omega
    rw [d0]; decide
  · rw [Nat.sub_self, b1, d0]; decide
  · rw [Nat.sub_self, d0]; decide
theorem eI_step {ew es cd cd' : Nat → Int32} {a : Nat} {pi pi' co co' : Int32} {un wi wi' : Int} {x : Int32} (h : eI ew es cd a pi.toNatClampNeg co.toNatClampNeg un wi (1 - 0)) (ep : pi.toInt = pi'.toInt + 1) (hp : 0 ≤ pi'.toInt) (hx : (ew pi'.toNatClampNeg).toInt ≤ 6) (e1 : cd' = upd cd co.toNatClampNeg x) (ex : x = es pi'.toNatClampNeg) (ek : co'.toInt = co.toInt + 1) (h0 : 0 ≤ co.toInt) (hwi : ((ew pi'.toNatClampNeg).toInt = 3 ∧ wi' = wi - 1) ∨ ((ew pi'.toNatClampNeg).toInt ≠ 3 ∧ wi' = wi)) (hu2 : un ≤ 30) : eI ew es cd' a pi'.toNatClampNeg co'.toNatClampNeg un wi' (1 - 0) := by
  subst ex
  rw [zcl_s hp ep] at h
  rw [zcl_s h0 ek]
  refine eI_popE h hx e1 ?_ (by omega)
  rcases hwi with ⟨k1, k2⟩ | ⟨k1, k2⟩
  · rw [if_pos k1]; exact k2
  · rw [if_neg k1]; omega
theorem eJ_pop {fk : Int} {ew es cd : Nat → Int32} {a : Nat} {pi pi' co : Int32} {un wi wi' : Int} (h : eI ew es cd a pi.toNatClampNeg co.toNatClampNeg un wi (1 - 0)) (ep : pi.toInt = pi'.toInt + 1) (hp : 0 ≤ pi'.toInt) (hx : 7 ≤ (ew pi'.toNatClampNeg).toInt) (hwi : ((ew pi'.toNatClampNeg).toInt = 7 ∧ wi' = wi - 1) ∨ ((ew pi'.toNatClampNeg).toInt ≠ 7 ∧ wi' = wi)) (p1 : pi.toInt ≤ 0 + wi + un) (p2 : co.toInt - a + pi.toInt ≤ 9 * un) : eJ 0 fk ew es cd a pi' co un wi' := by
  intro _
  rw [zcl_s hp ep] at h
  refine ⟨eI_pop h hx ?_, by omega, fun k => absurd k (by decide), fun _ => by omega⟩
  rcases hwi with ⟨k1, k2⟩ | ⟨k1, k2⟩
  · have : zwi (ew pi'.toNatClampNeg) = 1 := by unfold zwi; rw [if_pos (Or.inr k1)]
    omega
  · have : zwi (ew pi'.toNatClampNeg) = 0 := by unfold zwi; rw [if_neg (by omega)]
    omega
theorem eI_top {ew es cd : Nat → Int32} {a : Nat} {pi q : Int32} {co : Nat} {un wi w : Int} {y : Int32} (h : eI ew es cd a pi.toNatClampNeg co un wi w) (hq : q.toInt = pi.toInt - 1) (h0 : 1 ≤ pi.toInt) (e : y = ew q.toNatClampNeg) : 1 ≤ y.toInt ∧ (pi.toInt = 1 → y.toInt = 8) := by
  have c1 := zcl pi (by omega); have c2 := zcl q (by omega)
  subst e
  refine ⟨(h.2.1 _ (by omega)).1, fun k => ?_⟩
  have : q.toNatClampNeg = 0 := by omega
  rw [this]; exact h.1 (by omega)
def zMu (en tk pi : Int32) : Int := zM en tk * 100 + pi.toInt
def zMe (fk : Int) (en tk pi : Int32) : Int := if fk = 0 then 2 + zMu en tk pi else 1
theorem zM_nn {en tk : Int32} (h : en.toInt ≤ 1600) : 0 ≤ zM en tk := by unfold zM; split <;> omega
theorem zMe_0 {P : Prop} {fk : Int} {en tk pi : Int32} (h : en.toInt ≤ 1600) (h2 : 0 ≤ pi.toInt) (hm : zMe fk en tk pi ≤ ((0 : Nat) : Int)) : P := by
  have := zM_nn (tk := tk) h
  unfold zMe zMu at hm
  split at hm <;> omega
theorem zMe_s {fk fk' : Int} {en tk pi en' tk' pi' : Int32} {n : Nat} (h0 : fk = 0) (hp : en.toInt ≤ 1600) (hq : 0 ≤ pi.toInt) (hm : zMe fk en tk pi ≤ ((n + 1 : Nat) : Int)) (h : fk' = 0 → zMu en' tk' pi' + 1 ≤ zMu en tk pi) : zMe fk' en' tk' pi' ≤ (n : Int) := by
  have := zM_nn (tk := tk) hp
  unfold zMe at hm ⊢
  rw [if_pos h0] at hm
  split
  · next k => have := h k; omega
  · unfold zMu at hm; omega
theorem zB_fw {x y : Int32} {n a b c d : Int} (h : zB x c d) (r : y.toInt = x.toInt + n) (e1 : a ≤ c + n) (e2 : d + n ≤ b) : zB y a b := by
  have := h.1; have := h.2
  exact ⟨by omega, by omega⟩
theorem zlc {x y : Int64} {r : Int32} (e : r = lg_cmp x y) (h : r = 0) : x = y := by
  subst e
  unfold lg_cmp at h
  by_cases h1 : y < x
  · simp [h1] at h
  · by_cases h2 : x = y
    · exact h2
    · simp [h1, h2] at h
theorem zlcn {x y : Int64} {r : Int32} (e : r = lg_cmp x y) (h : ¬ r = 0) : x ≠ y := by
  subst e
  intro q; subst q
  exact h (by simp [lg_cmp])
def zP (f : Nat → Int32) (n : Nat) : Prop := ∀ j, j < n → j % 32 < 12 → zB (f j) 0 7
theorem zP_A {f : Nat → Int32} {n : Nat} (h : zP f n) (hn : 12 ≤ n := by decide) : zA f 0 12 0 7 := fun j _ k => h j (by omega) (by omega)
theorem zP_at {f : Nat → Int32} {n : Nat} {i : Int32} {a b : Int} (h : zP f n) (g : zB i a b) (h0 : 0 ≤ a) (h1 : b < n) (e : i.toNatClampNeg % 32 < 12) : zB (f i.toNatClampNeg) 0 7 := by
  have p1 := g.1; have p2 := g.2
  have c1 := zclamp g h0
  exact h _ (by omega) e
theorem zP_up {f g : Nat → Int32} {n k : Nat} {v : Int32} (e : g = upd f k v) (h : zP f n) (hv : k % 32 < 12 → zB v 0 7) : zP g n := by
  subst e
  intro j q r
  by_cases z : j = k
  · subst z; rw [pk_us]; exact hv r
  · rw [pk_un z]; exact h j q r
theorem zA_upc {f g : Nat → Int32} {p n k : Nat} {v : Int32} {a b : Int} (e : g = upd f k v) (h : zA f p n a b) (hv : p ≤ k → k < n → zB v a b) : zA g p n a b := by
  subst e
  intro j q r
  by_cases z : j = k
  · subst z; rw [pk_us]; exact hv q r
  · rw [pk_un z]; exact h j q r
theorem zMe_i {fk : Int} {en tk pi : Int32} (h1 : 0 ≤ en.toInt) (h2 : pi.toInt ≤ 1000) : zMe fk en tk pi ≤ ((400000 : Nat) : Int) := by
  unfold zMe zMu zM
  split
  · split <;> omega
  · omega
/-- the steps that a bank keeps -/
def zbk (rf rt cd : Nat → Int32) (b : Nat) : Prop := 560 * (b : Int) ≤ (rf b).toInt ∧ (rf b).toInt ≤ (rt b).toInt ∧ (rt b).toInt ≤ 560 * (b : Int) + 300 ∧ zcOK cd (rf b).toNatClampNeg ((rt b).toNatClampNeg - (rf b).toNatClampNeg)
def zbK (hs rf rt cd : Nat → Int32) (b : Nat) : Prop := (hs b).toInt ≠ 0 → zbk rf rt cd b
def zrT (ro th : Nat → Int32) (b : Nat) : Prop := 0 < (th b).toInt → 0 < (ro b).toInt
theorem zwc_le {ew : Nat → Int32} {i n : Nat} (h : i < n) : zwi (ew i) ≤ zwc ew n := by
  induction n with
  | zero => omega
  | succ n ih =>
    show _ ≤ zwc ew n + zwi (ew n)
    have h1 := zwi_0 (ew n); have h2 := zwc_0 ew n
    by_cases e : i = n
    · subst e; omega
    · have := ih (by omega); omega
theorem eI_wn {ew es cd : Nat → Int32} {a : Nat} {pi q : Int32} {co : Nat} {un wi w : Int} (h : eI ew es cd a pi.toNatClampNeg co un wi w) (hq : pi.toInt = q.toInt + 1) (h0 : 0 ≤ q.toInt) (hx : (ew q.toNatClampNeg).toInt = 3 ∨ (ew q.toNatClampNeg).toInt = 7) : 1 ≤ wi := by
  have c1 := zcl pi (by omega); have c2 := zcl q h0
  have h1 := zwc_le (ew := ew) (i := q.toNatClampNeg) (n := pi.toNatClampNeg) (by omega)
  have h2 : zwi (ew q.toNatClampNeg) = 1 := by unfold zwi; rw [if_pos hx]
  have h3 := h.2.2.2.1
  omega
theorem eJ_end {r fk : Int} {ew es cd : Nat → Int32} {a pi co : Int32} {un wi : Int} (h : eJ r fk ew es cd a.toNatClampNeg pi co un wi) (h0 : fk = 0) (h1 : 0 ≤ co.toInt) (h2 : un ≤ 30) (h3 : wi ≤ 7) (h4 : 0 ≤ pi.toInt) (ha : 0 ≤ a.toInt := by assumption) (hr : r = 0 ∨ r = 1 := by assumption) : a.toInt ≤ co.toInt ∧ co.toInt ≤ a.toInt + 300 ∧ zcOK cd a.toNatClampNeg (co.toNatClampNeg - a.toNatClampNeg) := by
  obtain ⟨q, p1, p2, p3⟩ := h h0
  have c1 := zcl a ha; have c2 := zcl co h1
  have := q.2.2.1
  refine ⟨by omega, ?_, q.2.2.2.2.1⟩
  rcases hr with hr | hr
  · have := p3 hr; omega
  · have := p2 hr; omega
