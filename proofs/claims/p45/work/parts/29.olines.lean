/-! what a bank holds, over the lines of a text -/
def zdr (dn on ot ro : Nat → Int32) (b : Nat) : Prop := ∀ d : Nat, (d : Int) < (dn b).toInt → (on (12 * b + d)).toInt < (ro b).toInt ∧ (ot (12 * b + d)).toInt < (ro b).toInt
theorem zrbk {rb bk : Int32} (h : rb.toInt + bk.toInt = 1) (h1 : 0 ≤ rb.toInt) (h2 : 0 ≤ bk.toInt) : bk.toNatClampNeg ≠ rb.toNatClampNeg ∧ bk.toNatClampNeg < 2 := by
  have c1 := zcl rb h1; have c2 := zcl bk h2
  exact ⟨by omega, by omega⟩
theorem zad1 {x : Int32} (h : x.toInt ≤ 100000) : (x + 1).toInt = x.toInt + 1 := by
  have h1 := (zB_top x).1
  rw [Int32.toInt_add]
  rw [show (1 : Int32).toInt = 1 from by decide]
  exact zbm (by omega) (by omega)
theorem zrT_r1 {ro ro' th : Nat → Int32} {b : Nat} (e : ro' = upd ro b (ro b + 1)) (h0 : 0 ≤ (ro b).toInt) (h1 : (ro b).toInt ≤ 100) : zrT ro' th b := by
  subst e
  intro _
  rw [pk_us, zad1 (by omega)]; omega
theorem zrT_r0 {ro ro' th : Nat → Int32} {b c : Nat} {v : Int32} (e : ro' = upd ro b v) (hne : c ≠ b) (h : zrT ro th c) : zrT ro' th c := by
  subst e
  intro k
  rw [pk_un hne]; exact h k
theorem zrT_t1 {ro th' : Nat → Int32} {b : Nat} (h : 1 ≤ (ro b).toInt) : zrT ro th' b := fun _ => by omega
theorem zrT_t0 {ro th th' : Nat → Int32} {b c : Nat} {v : Int32} (e : th' = upd th b v) (hne : c ≠ b) (h : zrT ro th c) : zrT ro th' c := by
  subst e
  intro k
  rw [pk_un hne] at k; exact h k
theorem zrT_0 {ro th th' : Nat → Int32} {b : Nat} (e : th' = upd th b 0) : zrT ro th' b := by
  subst e
  intro k
  rw [pk_us] at k; exact absurd k (by decide)
theorem zdr_r1 {dn on ot ro ro' : Nat → Int32} {b : Nat} (e : ro' = upd ro b (ro b + 1)) (h1 : (ro b).toInt ≤ 100) (h : zdr dn on ot ro b) : zdr dn on ot ro' b := by
  subst e
  intro d hd
  have := h d hd
  rw [pk_us, zad1 (by omega)]
  exact ⟨by omega, by omega⟩
theorem zdr_r0 {dn on ot ro ro' : Nat → Int32} {b c : Nat} {v : Int32} (e : ro' = upd ro b v) (hne : c ≠ b) (h : zdr dn on ot ro c) : zdr dn on ot ro' c := by
  subst e
  intro d hd
  rw [pk_un hne]; exact h d hd
theorem zdr_0 {dn dn' on ot ro : Nat → Int32} {b : Nat} (e : dn' = upd dn b 0) : zdr dn' on ot ro b := by
  subst e
  intro d hd
  rw [pk_us, show (0 : Int32).toInt = 0 from by decide] at hd
  omega
theorem zdr_c0 {dn dn' on ot ro : Nat → Int32} {b c : Nat} {v : Int32} (e : dn' = upd dn b v) (hne : c ≠ b) (h : zdr dn on ot ro c) : zdr dn' on ot ro c := by
  subst e
  intro d hd
  rw [pk_un hne] at hd; exact h d hd
theorem zdr_d1 {dn dn' on on' ot ot' ro : Nat → Int32} {rb k u w : Int32} (h : zdr dn on ot ro rb.toNatClampNeg) (h0 : 0 ≤ rb.toInt) (hd : 0 ≤ (dn rb.toNatClampNeg).toInt) (hd2 : (dn rb.toNatClampNeg).toInt ≤ 11) (e1 : on' = upd on k.toNatClampNeg u) (e2 : ot' = upd ot k.toNatClampNeg w) (e3 : dn' = upd dn rb.toNatClampNeg (dn rb.toNatClampNeg + 1)) (hk : k.toInt = 12 * rb.toInt + (dn rb.toNatClampNeg).toInt) (hu : u.toInt < (ro rb.toNatClampNeg).toInt) (hw : w.toInt < (ro rb.toNatClampNeg).toInt) : zdr dn' on' ot' ro rb.toNatClampNeg := by
  subst e1; subst e2; subst e3
  have c1 := zcl rb h0; have c2 := zcl k (by omega)
  intro d q
  rw [pk_us, zad1 (by omega)] at q
  by_cases z : 12 * rb.toNatClampNeg + d = k.toNatClampNeg
  · rw [z, pk_us, pk_us]; exact ⟨hu, hw⟩
  · rw [pk_un z, pk_un z]; exact h d (by omega)
theorem zdr_d0 {dn on on' ot ot' ro : Nat → Int32} {rb k : Int32} {c : Nat} (h : zdr dn on ot ro c) (hc : c < 2) (hne : c ≠ rb.toNatClampNeg) (h0 : 0 ≤ rb.toInt) (h1 : rb.toInt ≤ 1) (hdc : zA dn 0 2 0 12) (n : Int) (hk : k.toInt = 12 * rb.toInt + n) (hn : 0 ≤ n) (hn2 : n ≤ 11) (e1 : ∀ j, j ≠ k.toNatClampNeg → on' j = on j) (e2 : ∀ j, j ≠ k.toNatClampNeg → ot' j = ot j) : zdr dn on' ot' ro c := by
  have c1 := zcl rb h0; have c2 := zcl k (by omega)
  have hb := (hdc c (Nat.zero_le _) hc).2
  intro d q
  have z : 12 * c + d ≠ k.toNatClampNeg := by omega
  rw [e1 _ z, e2 _ z]; exact h d q
theorem zupj {f g : Nat → Int32} {k j : Nat} {v : Int32} (e : g = upd f k v) (h : j ≠ k) : g j = f j := by subst e; exact pk_un h
theorem zbk_new {rf rt rf' rt' cd : Nat → Int32} {rb i j co co' : Int32} (e1 : rf' = upd rf i.toNatClampNeg co) (e2 : rt' = upd rt j.toNatClampNeg co') (h1 : i.toInt = rb.toInt) (h2 : j.toInt = rb.toInt) (hc : co.toInt = 560 * rb.toInt) (h0 : 0 ≤ rb.toInt) (o : co.toInt ≤ co'.toInt ∧ co'.toInt ≤ co.toInt + 300 ∧ zcOK cd co.toNatClampNeg (co'.toNatClampNeg - co.toNatClampNeg)) : zbk rf' rt' cd rb.toNatClampNeg := by
  obtain rfl : i = rb := Int32.toInt_inj.mp h1
  obtain rfl : j = i := Int32.toInt_inj.mp h2
  subst e1; subst e2
  have c1 := zcl j h0
  unfold zbk
  rw [pk_us, pk_us]
  exact ⟨by omega, o.1, by omega, o.2.2⟩
theorem zbk_old {rf rt rf' rt' cd cd' : Nat → Int32} {rb i j co co' : Int32} {b : Nat} (e1 : rf' = upd rf i.toNatClampNeg co) (e2 : rt' = upd rt j.toNatClampNeg co') (h1 : i.toInt = rb.toInt) (h2 : j.toInt = rb.toInt) (hc : co.toInt = 560 * rb.toInt) (h0 : 0 ≤ rb.toInt) (h01 : rb.toInt ≤ 1) (P : zPr cd' cd co.toNatClampNeg) (hne : b ≠ rb.toNatClampNeg) (hb : b < 2) (h : zbk rf rt cd b) : zbk rf' rt' cd' b := by
  obtain rfl : i = rb := Int32.toInt_inj.mp h1
  obtain rfl : j = i := Int32.toInt_inj.mp h2
  subst e1; subst e2
  have c1 := zcl j h0; have c2 := zcl co (by omega)
  obtain ⟨q1, q2, q3, q4⟩ := h
  have c3 := zcl (rf b) (by omega); have c4 := zcl (rt b) (by omega)
  unfold zbk
  rw [pk_un hne, pk_un hne]
  exact ⟨q1, q2, q3, zcOK_cg (fun n hn => P _ (by omega)) q4⟩
theorem zbK_o {hs hs' rf rt cd rf' rt' cd' : Nat → Int32} {b c : Nat} {v : Int32} (e : hs' = upd hs b v) (hne : c ≠ b) (o : zbk rf rt cd c → zbk rf' rt' cd' c) (h : zbK hs rf rt cd c) : zbK hs' rf' rt' cd' c := by
  subst e
  intro k
  rw [pk_un hne] at k
  exact o (h k)
theorem zbK_0 {hs hs' rf rt cd : Nat → Int32} {b : Nat} (e : hs' = upd hs b 0) : zbK hs' rf rt cd b := by
  subst e
  intro k
  rw [pk_us] at k; exact absurd (by decide) k
theorem zhs1 {hs hs' : Nat → Int32} {b : Nat} (e : hs' = upd hs b (vp_nar .boolean 1)) : (hs' b).toInt = 1 := by
  subst e
  rw [pk_us]; rfl
theorem zhs0 {hs hs' : Nat → Int32} {b : Nat} (e : hs' = upd hs b 0) : (hs' b).toInt = 0 := by
  subst e
  rw [pk_us]; rfl
theorem zc_le {rf rt cd : Nat → Int32} {b : Nat} {n k : Int32} (K : zbk rf rt cd b) (hd : n.toInt = zdep cd (rf b).toNatClampNeg (k.toNatClampNeg - (rf b).toNatClampNeg)) (h1 : (rf b).toInt ≤ k.toInt) (h2 : k.toInt ≤ (rt b).toInt) : 0 ≤ n.toInt ∧ n.toInt ≤ 59 := by
  obtain ⟨q1, q2, q3, q4⟩ := K
  have c1 := zcl (rf b) (by omega); have c2 := zcl (rt b) (by omega); have c3 := zcl k (by omega)
  rw [hd]; exact q4.1 _ (by omega)
theorem zc_at {rf rt cd : Nat → Int32} {b : Nat} {n k y : Int32} (K : zbk rf rt cd b) (hd : n.toInt = zdep cd (rf b).toNatClampNeg (k.toNatClampNeg - (rf b).toNatClampNeg)) (h1 : (rf b).toInt ≤ k.toInt) (h2 : k.toInt < (rt b).toInt) (e : y = cd k.toNatClampNeg) : (y.toInt = 126 → 1 ≤ n.toInt) ∧ ((y.toInt < 97 ∨ 122 < y.toInt) → y.toInt ≠ 126 → 2 ≤ n.toInt) ∧ (97 ≤ y.toInt → y.toInt ≤ 122 → n.toInt ≤ 58) := by
  obtain ⟨q1, q2, q3, q4⟩ := K
  have c1 := zcl (rf b) (by omega); have c2 := zcl (rt b) (by omega); have c3 := zcl k (by omega)
  have ea : (rf b).toNatClampNeg + (k.toNatClampNeg - (rf b).toNatClampNeg) = k.toNatClampNeg := by omega
  have a1 := q4.2 (k.toNatClampNeg - (rf b).toNatClampNeg) (by omega)
  have a2 := (q4.1 (k.toNatClampNeg - (rf b).toNatClampNeg + 1) (by omega)).2
  have a3 : zdep cd (rf b).toNatClampNeg (k.toNatClampNeg - (rf b).toNatClampNeg + 1) = zdep cd (rf b).toNatClampNeg (k.toNatClampNeg - (rf b).toNatClampNeg) + zdl (cd ((rf b).toNatClampNeg + (k.toNatClampNeg - (rf b).toNatClampNeg))) := rfl
  rw [ea, ← e, ← hd] at a1
  rw [a3, ea, ← e, ← hd] at a2
  refine ⟨a1.1, fun z1 z2 => a1.2 ?_, fun z1 z2 => ?_⟩
  · unfold zdl; rw [if_neg z2, if_neg (by omega)]
  · have : zdl y = 1 := zdl_l ⟨z1, z2⟩
    omega
theorem zc_nx {rf cd : Nat → Int32} {b : Nat} {n n' k k' y : Int32} {d : Int} (hd : n.toInt = zdep cd (rf b).toNatClampNeg (k.toNatClampNeg - (rf b).toNatClampNeg)) (h0 : 0 ≤ (rf b).toInt) (h1 : (rf b).toInt ≤ k.toInt) (e : y = cd k.toNatClampNeg) (hk : k'.toInt = k.toInt + 1) (hz : zdl y = d) (hn : n'.toInt = n.toInt + d) : n'.toInt = zdep cd (rf b).toNatClampNeg (k'.toNatClampNeg - (rf b).toNatClampNeg) := by
  have c1 := zcl (rf b) h0; have c3 := zcl k (by omega)
  have ea : (rf b).toNatClampNeg + (k.toNatClampNeg - (rf b).toNatClampNeg) = k.toNatClampNeg := by omega
  have es : k'.toNatClampNeg - (rf b).toNatClampNeg = (k.toNatClampNeg - (rf b).toNatClampNeg) + 1 := by
    have := zcl_s (i := k) (j := k') (by omega) hk; omega
  rw [es]
  show _ = zdep cd (rf b).toNatClampNeg (k.toNatClampNeg - (rf b).toNatClampNeg) + zdl (cd ((rf b).toNatClampNeg + (k.toNatClampNeg - (rf b).toNatClampNeg)))
  rw [ea, ← e, ← hd, hz]; exact hn
theorem zdl_t {x : Int32} (h : x.toInt = 126) : zdl x = 0 := by unfold zdl; rw [if_pos h]
theorem zdl_o {x : Int32} (h : x.toInt ≠ 126) (h2 : x.toInt < 97 ∨ 122 < x.toInt) : zdl x = -1 := by unfold zdl; rw [if_neg h, if_neg (by omega)]
