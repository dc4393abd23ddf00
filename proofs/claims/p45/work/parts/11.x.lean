set_option maxHeartbeats 4000000 in
set_option maxRecDepth 100000 in
theorem c_X1_put (l : Launch) (D : va_G) (cI : ClassId) (cB : ClassId) (cL : ClassId) (cZ : ClassId) (cG : ClassId) (FO : Nat) (x0 : Int32) (aFO : Nat → Nat) (FO_size : Int32) (FO_units : Int32) (FO_told : Int32) (FO_steps : Nat → Int32) (sz : Nat) (b_FO_size : zB FO_size 0 400) : Met l yX1_put wsX1_put ({ frames := 0, cells := 0, slots := 0, locals := 0 }) (xp D [(cI, .int), (cB, .byte), (cL, .long), (cZ, .boolean), (cG, .array .int)] [(FO, .inr (1, oX1 aFO FO_size FO_units FO_told)), ((aFO 0), .inl (cI, 400, .inl FO_steps))] sz [] [.ref FO, .int x0]) (va_Qv (fun _ : Unit => True) (fun (_ : Unit) (t : State) => ∃ (nFO_size : Int32), ∃ (nFOsteps : Nat → Int32), zB nFO_size 1 400 ∧ xB D (va_A [(FO, .inr (1, oX1 aFO FO_size FO_units FO_told)), ((aFO 0), .inl (cI, 400, .inl FO_steps))] sz) [(FO, .inr (1, oX1 aFO nFO_size FO_units FO_told)), ((aFO 0), .inl (cI, 400, .inl nFOsteps))] t) (va_A [(FO, .inr (1, oX1 aFO FO_size FO_units FO_told)), ((aFO 0), .inl (cI, 400, .inl FO_steps))] sz)) 0 0 (va_A [(FO, .inr (1, oX1 aFO FO_size FO_units FO_told)), ((aFO 0), .inl (cI, 400, .inl FO_steps))] sz) := by
  refine Met.ofW (cc := cX1_put) (maxL := 2) (ret := none) (by decide) rfl ?_
  intro p e s m args below meth c s₁ B hml hv
  obtain ⟨rfl, hsz, hP, hK, hD0, hNw⟩ := hv
  have hx := B.exec
  have hb := B.bytes
  have hr := B.returns
  have hts := atoms_spec (ws := wsX1_put) B.pre
  have hown : s.vm.findClass RX1 = some m.cls := findClass_of_methodNamed B.named
  have hlocks := B.notSynchronized
  clear B
  subst hsz
  have hD := hD0.self (sz := s.heap.size)
  clear hD0 hNw
  generalize hAe : va_A [(FO, .inr (1, oX1 aFO FO_size FO_units FO_told)), ((aFO 0), .inl (cI, 400, .inl FO_steps))] s.heap.size = A at hD ⊢
  have hA : ∀ q : Nat, s.heap.size ≤ q → A q := fun q h => by rw [← hAe]; exact Or.inr h
  have hS : va_S A s.heap s.heap [] := va_S.rf
  clear hAe
  obtain ⟨H, hH⟩ : ∃ H : Heap, H = s.heap := ⟨_, rfl⟩
  obtain ⟨locs, hlocs⟩ : ∃ L : List Loc, L = [] := ⟨_, rfl⟩
  replace hP : va_P D classes [(FO, .inr (1, oX1 aFO FO_size FO_units FO_told)), ((aFO 0), .inl (cI, 400, .inl FO_steps))] H := by rw [hH]; exact hP
  replace hS : va_S A s.heap H locs := by rw [hH, hlocs]; exact hS
  rw [← hH, ← hlocs]
  clear hlocs hH
  have hl := lv_entry ([.ref FO, .int x0]) (n := 2) (Nat.le_of_ble_eq_true rfl)
  rw [lg_entry_eq]
  generalize (lg_sl ([.ref FO, .int x0]) ++ List.replicate (2 - (lg_sl ([.ref FO, .int x0])).length) Slot.unset).toArray = ls at hl ⊢
  replace hl : lv_has ls 2 [(0, .ref FO), (1, .int x0)] := hl
  refine lv_aload_n hx hb dX1_put_0 rfl (lv_at hl 0 rfl) ?_
  refine va_get (D := D) (ci := 1) (v := .int FO_size) (C := RX1) (T := TX1) (N := 6) hx hb hts iw_X1_put_X1 hown hK hP 0 rfl rfl 3 (by decide) (hts (.fieldLink RX1 19 "SoldHouse$Formula" "size" "I") (List.mem_of_getElem? (i := 1) rfl)) (fun _ h9 => h9) rfl dX1_put_1 ?_
  refine lv_sipush (v := 400) hx hb dX1_put_4 (by decide) ?_
  refine lv_icmp_ge (tgt := 30) hx hb dX1_put_7 (by decide) (fun c7 => ?_) (fun c7 => ?_)
  · have by7t_FO_size : zB FO_size 400 400 := zB_lev (ze c7) (show zB 400 400 400 from ⟨by decide, by decide⟩) b_FO_size (by decide)
    exact W.vret hx hb hr (fun t ht hW => ⟨⟨(), rfl, trivial, ⟨FO_size, FO_steps, (zB_w by7t_FO_size (by decide) (by decide)), by rw [ht]; exact hP, hD⟩⟩, hS.F ht⟩) hS.2.2 dX1_put_30
  · have bx7f_FO_size : zB FO_size 0 399 := zB_ltu (zf c7) b_FO_size (show zB 400 400 400 from ⟨by decide, by decide⟩) (by decide)
    refine lv_aload_n hx hb dX1_put_10 rfl (lv_at hl 0 rfl) ?_
    refine va_get (D := D) (ci := 1) (v := .ref (aFO 0)) (C := RX1) (T := TX1) (N := 6) hx hb hts iw_X1_put_X1 hown hK hP 0 rfl rfl 0 (by decide) (hts (.fieldLink RX1 9 "SoldHouse$Formula" "steps" "[I") (List.mem_of_getElem? (i := 2) rfl)) (fun _ h9 => h9) rfl dX1_put_11 ?_
    refine lv_aload_n hx hb dX1_put_14 rfl (lv_at hl 0 rfl) ?_
    refine va_get (D := D) (ci := 1) (v := .int FO_size) (C := RX1) (T := TX1) (N := 6) hx hb hts iw_X1_put_X1 hown hK hP 0 rfl rfl 3 (by decide) (hts (.fieldLink RX1 19 "SoldHouse$Formula" "size" "I") (List.mem_of_getElem? (i := 1) rfl)) (fun _ h9 => h9) rfl dX1_put_15 ?_
    refine lv_iload_n hx hb dX1_put_18 rfl (lv_at hl 1 rfl) ?_
    refine zi_iast hx hb hK hP hD hS 1 0 rfl rfl (zB_in bx7f_FO_size (by decide) (by decide)) dX1_put_19 (fun H locs g19 eg19 hP hD hS => ?_)
    replace hP : va_P D classes [(FO, .inr (1, oX1 aFO FO_size FO_units FO_told)), ((aFO 0), .inl (cI, 400, .inl g19))] H := hP
    replace hD : va_D A [(FO, .inr (1, oX1 aFO FO_size FO_units FO_told)), ((aFO 0), .inl (cI, 400, .inl g19))] := hD
    clear eg19
    refine lv_aload_n hx hb dX1_put_20 rfl (lv_at hl 0 rfl) ?_
    refine lv_dup hx hb dX1_put_21 rfl ?_
    refine va_get (D := D) (ci := 1) (v := .int FO_size) (C := RX1) (T := TX1) (N := 6) hx hb hts iw_X1_put_X1 hown hK hP 0 rfl rfl 3 (by decide) (hts (.fieldLink RX1 19 "SoldHouse$Formula" "size" "I") (List.mem_of_getElem? (i := 1) rfl)) (fun _ h9 => h9) rfl dX1_put_22 ?_
    refine lv_iconst (v := 1) hx hb dX1_put_25 (by decide) ?_
    refine lv_iadd hx hb dX1_put_26 ?_
    refine zi_top2 (P := fun y => y.toInt = FO_size.toInt + 1) (a := 1) (b := 400) (zB_add bx7f_FO_size (show zB 1 1 1 from ⟨by decide, by decide⟩) (by decide) (by decide) (by decide) (by decide)) (zR_addc bx7f_FO_size (by decide) (by decide) (by decide)) (fun y26 by26 ry26 => ?_)
    refine va_put (D := D) (ci := 1) (v := .int y26) (ty := tyX1 3) (C := RX1) (T := TX1) (N := 6) hx hb hts iw_X1_put_X1 tyX1 tyX1_ok nmX1 hown hK hP hD hS 0 rfl rfl 3 (by decide) (hts (.fieldLink RX1 19 "SoldHouse$Formula" "size" "I") (List.mem_of_getElem? (i := 1) rfl)) (fun _ h9 => h9) rfl (by decide +kernel) rfl rfl (Nat.le_of_ble_eq_true rfl) dX1_put_27 (fun H locs hP hD hS => ?_)
    replace hP : va_P D classes [(FO, .inr (1, oX1 aFO y26 FO_units FO_told)), ((aFO 0), .inl (cI, 400, .inl g19))] H := hP
    replace hD : va_D A [(FO, .inr (1, oX1 aFO y26 FO_units FO_told)), ((aFO 0), .inl (cI, 400, .inl g19))] := hD
    exact W.vret hx hb hr (fun t ht hW => ⟨⟨(), rfl, trivial, ⟨y26, g19, by26, by rw [ht]; exact hP, hD⟩⟩, hS.F ht⟩) hS.2.2 dX1_put_30
set_option maxHeartbeats 4000000 in
set_option maxRecDepth 100000 in
theorem c_X1_know (l : Launch) (D : va_G) (cI : ClassId) (cB : ClassId) (cL : ClassId) (cZ : ClassId) (cG : ClassId) (FO : Nat) (x0 : Int32) (x1 : Int32) (x2 : Int32) (x3 : Int32) (x4 : Int32) (aFO : Nat → Nat) (FO_size : Int32) (FO_units : Int32) (FO_told : Int32) (FO_known : Nat → Int32) (sz : Nat) (b_FO_size : zB FO_size 0 400) : Met l yX1_know wsX1_know ({ frames := 0, cells := 0, slots := 0, locals := 0 }) (xp D [(cI, .int), (cB, .byte), (cL, .long), (cZ, .boolean), (cG, .array .int)] [(FO, .inr (1, oX1 aFO FO_size FO_units FO_told)), ((aFO 2), .inl (cI, 5, .inl FO_known))] sz [] [.ref FO, .int x0, .int x1, .int x2, .int x3, .int x4]) (va_Qv (fun _ : Unit => True) (fun (_ : Unit) (t : State) => ∃ (nFOknown : Nat → Int32), xB D (va_A [(FO, .inr (1, oX1 aFO FO_size FO_units FO_told)), ((aFO 2), .inl (cI, 5, .inl FO_known))] sz) [(FO, .inr (1, oX1 aFO FO_size FO_units FO_told)), ((aFO 2), .inl (cI, 5, .inl nFOknown))] t) (va_A [(FO, .inr (1, oX1 aFO FO_size FO_units FO_told)), ((aFO 2), .inl (cI, 5, .inl FO_known))] sz)) 0 0 (va_A [(FO, .inr (1, oX1 aFO FO_size FO_units FO_told)), ((aFO 2), .inl (cI, 5, .inl FO_known))] sz) := by
  refine Met.ofW (cc := cX1_know) (maxL := 6) (ret := none) (by decide) rfl ?_
  intro p e s m args below meth c s₁ B hml hv
  obtain ⟨rfl, hsz, hP, hK, hD0, hNw⟩ := hv
  have hx := B.exec
  have hb := B.bytes
  have hr := B.returns
  have hts := atoms_spec (ws := wsX1_know) B.pre
  have hown : s.vm.findClass RX1 = some m.cls := findClass_of_methodNamed B.named
  have hlocks := B.notSynchronized
  clear B
  subst hsz
  have hD := hD0.self (sz := s.heap.size)
  clear hD0 hNw
  generalize hAe : va_A [(FO, .inr (1, oX1 aFO FO_size FO_units FO_told)), ((aFO 2), .inl (cI, 5, .inl FO_known))] s.heap.size = A at hD ⊢
  have hA : ∀ q : Nat, s.heap.size ≤ q → A q := fun q h => by rw [← hAe]; exact Or.inr h
  have hS : va_S A s.heap s.heap [] := va_S.rf
  clear hAe
  obtain ⟨H, hH⟩ : ∃ H : Heap, H = s.heap := ⟨_, rfl⟩
  obtain ⟨locs, hlocs⟩ : ∃ L : List Loc, L = [] := ⟨_, rfl⟩
  replace hP : va_P D classes [(FO, .inr (1, oX1 aFO FO_size FO_units FO_told)), ((aFO 2), .inl (cI, 5, .inl FO_known))] H := by rw [hH]; exact hP
  replace hS : va_S A s.heap H locs := by rw [hH, hlocs]; exact hS
  rw [← hH, ← hlocs]
  clear hlocs hH
  have hl := lv_entry ([.ref FO, .int x0, .int x1, .int x2, .int x3, .int x4]) (n := 6) (Nat.le_of_ble_eq_true rfl)
  rw [lg_entry_eq]
  generalize (lg_sl ([.ref FO, .int x0, .int x1, .int x2, .int x3, .int x4]) ++ List.replicate (6 - (lg_sl ([.ref FO, .int x0, .int x1, .int x2, .int x3, .int x4])).length) Slot.unset).toArray = ls at hl ⊢
  replace hl : lv_has ls 6 [(0, .ref FO), (1, .int x0), (2, .int x1), (3, .int x2), (4, .int x3), (5, .int x4)] := hl
  refine lv_aload_n hx hb dX1_know_0 rfl (lv_at hl 0 rfl) ?_
  refine va_get (D := D) (ci := 1) (v := .ref (aFO 2)) (C := RX1) (T := TX1) (N := 6) hx hb hts iw_X1_know_X1 hown hK hP 0 rfl rfl 2 (by decide) (hts (.fieldLink RX1 16 "SoldHouse$Formula" "known" "[I") (List.mem_of_getElem? (i := 1) rfl)) (fun _ h9 => h9) rfl dX1_know_1 ?_
  refine lv_iconst (v := 0) hx hb dX1_know_4 (by decide) ?_
  refine lv_iload_n hx hb dX1_know_5 rfl (lv_at hl 1 rfl) ?_
  refine zi_iast hx hb hK hP hD hS 1 0 rfl rfl (zB_in (show zB 0 0 0 from ⟨by decide, by decide⟩) (by decide) (by decide)) dX1_know_6 (fun H locs g6 eg6 hP hD hS => ?_)
  replace hP : va_P D classes [(FO, .inr (1, oX1 aFO FO_size FO_units FO_told)), ((aFO 2), .inl (cI, 5, .inl g6))] H := hP
  replace hD : va_D A [(FO, .inr (1, oX1 aFO FO_size FO_units FO_told)), ((aFO 2), .inl (cI, 5, .inl g6))] := hD
  clear eg6
  refine lv_aload_n hx hb dX1_know_7 rfl (lv_at hl 0 rfl) ?_
  refine va_get (D := D) (ci := 1) (v := .ref (aFO 2)) (C := RX1) (T := TX1) (N := 6) hx hb hts iw_X1_know_X1 hown hK hP 0 rfl rfl 2 (by decide) (hts (.fieldLink RX1 16 "SoldHouse$Formula" "known" "[I") (List.mem_of_getElem? (i := 1) rfl)) (fun _ h9 => h9) rfl dX1_know_8 ?_
  refine lv_iconst (v := 1) hx hb dX1_know_11 (by decide) ?_
  refine lv_iload_n hx hb dX1_know_12 rfl (lv_at hl 2 rfl) ?_
  refine zi_iast hx hb hK hP hD hS 1 0 rfl rfl (zB_in (show zB 1 1 1 from ⟨by decide, by decide⟩) (by decide) (by decide)) dX1_know_13 (fun H locs g13 eg13 hP hD hS => ?_)
  replace hP : va_P D classes [(FO, .inr (1, oX1 aFO FO_size FO_units FO_told)), ((aFO 2), .inl (cI, 5, .inl g13))] H := hP
  replace hD : va_D A [(FO, .inr (1, oX1 aFO FO_size FO_units FO_told)), ((aFO 2), .inl (cI, 5, .inl g13))] := hD
  clear eg13
  refine lv_aload_n hx hb dX1_know_14 rfl (lv_at hl 0 rfl) ?_
  refine va_get (D := D) (ci := 1) (v := .ref (aFO 2)) (C := RX1) (T := TX1) (N := 6) hx hb hts iw_X1_know_X1 hown hK hP 0 rfl rfl 2 (by decide) (hts (.fieldLink RX1 16 "SoldHouse$Formula" "known" "[I") (List.mem_of_getElem? (i := 1) rfl)) (fun _ h9 => h9) rfl dX1_know_15 ?_
  refine lv_iconst (v := 2) hx hb dX1_know_18 (by decide) ?_
  refine lv_iload_n hx hb dX1_know_19 rfl (lv_at hl 3 rfl) ?_
  refine zi_iast hx hb hK hP hD hS 1 0 rfl rfl (zB_in (show zB 2 2 2 from ⟨by decide, by decide⟩) (by decide) (by decide)) dX1_know_20 (fun H locs g20 eg20 hP hD hS => ?_)
  replace hP : va_P D classes [(FO, .inr (1, oX1 aFO FO_size FO_units FO_told)), ((aFO 2), .inl (cI, 5, .inl g20))] H := hP
  replace hD : va_D A [(FO, .inr (1, oX1 aFO FO_size FO_units FO_told)), ((aFO 2), .inl (cI, 5, .inl g20))] := hD
  clear eg20
  refine lv_aload_n hx hb dX1_know_21 rfl (lv_at hl 0 rfl) ?_
  refine va_get (D := D) (ci := 1) (v := .ref (aFO 2)) (C := RX1) (T := TX1) (N := 6) hx hb hts iw_X1_know_X1 hown hK hP 0 rfl rfl 2 (by decide) (hts (.fieldLink RX1 16 "SoldHouse$Formula" "known" "[I") (List.mem_of_getElem? (i := 1) rfl)) (fun _ h9 => h9) rfl dX1_know_22 ?_
  refine lv_iconst (v := 3) hx hb dX1_know_25 (by decide) ?_
  refine lv_iload hx hb dX1_know_26 (lv_at hl 4 rfl) ?_
  refine zi_iast hx hb hK hP hD hS 1 0 rfl rfl (zB_in (show zB 3 3 3 from ⟨by decide, by decide⟩) (by decide) (by decide)) dX1_know_28 (fun H locs g28 eg28 hP hD hS => ?_)
  replace hP : va_P D classes [(FO, .inr (1, oX1 aFO FO_size FO_units FO_told)), ((aFO 2), .inl (cI, 5, .inl g28))] H := hP
  replace hD : va_D A [(FO, .inr (1, oX1 aFO FO_size FO_units FO_told)), ((aFO 2), .inl (cI, 5, .inl g28))] := hD
  clear eg28
  refine lv_aload_n hx hb dX1_know_29 rfl (lv_at hl 0 rfl) ?_
  refine va_get (D := D) (ci := 1) (v := .ref (aFO 2)) (C := RX1) (T := TX1) (N := 6) hx hb hts iw_X1_know_X1 hown hK hP 0 rfl rfl 2 (by decide) (hts (.fieldLink RX1 16 "SoldHouse$Formula" "known" "[I") (List.mem_of_getElem? (i := 1) rfl)) (fun _ h9 => h9) rfl dX1_know_30 ?_
  refine lv_iconst (v := 4) hx hb dX1_know_33 (by decide) ?_
  refine lv_iload hx hb dX1_know_34 (lv_at hl 5 rfl) ?_
  refine zi_iast hx hb hK hP hD hS 1 0 rfl rfl (zB_in (show zB 4 4 4 from ⟨by decide, by decide⟩) (by decide) (by decide)) dX1_know_36 (fun H locs g36 eg36 hP hD hS => ?_)
  replace hP : va_P D classes [(FO, .inr (1, oX1 aFO FO_size FO_units FO_told)), ((aFO 2), .inl (cI, 5, .inl g36))] H := hP
  replace hD : va_D A [(FO, .inr (1, oX1 aFO FO_size FO_units FO_told)), ((aFO 2), .inl (cI, 5, .inl g36))] := hD
  clear eg36
  exact W.vret hx hb hr (fun t ht hW => ⟨⟨(), rfl, trivial, ⟨g36, by rw [ht]; exact hP, hD⟩⟩, hS.F ht⟩) hS.2.2 dX1_know_37
set_option maxHeartbeats 4000000 in
set_option maxRecDepth 100000 in
theorem c_X1_join (l : Launch) (D : va_G) (cI : ClassId) (cB : ClassId) (cL : ClassId) (cZ : ClassId) (cG : ClassId) (x0 : Int32) (x1 : Int32) (x2 : Int32) : Met l yX1_join wsX1_join ({ frames := 0, cells := 0, slots := 0, locals := 0 }) (xr D [(cI, .int), (cB, .byte), (cL, .long), (cZ, .boolean), (cG, .array .int)] [] [.int x0, .int x1, .int x2]) (vp_Si (fun r => True)) 0 0 (fun _ => False) := by
  refine Met.ofW (cc := cX1_join) (maxL := 3) (ret := (some .int)) (by decide) rfl ?_
  intro p e s m args below meth c s₁ B hml hv
  obtain ⟨rfl, hP, hK⟩ := hv
  have hx := B.exec
  have hb := B.bytes
  have hr := B.returns
  have hts := atoms_spec (ws := wsX1_join) B.pre
  have hown : s.vm.findClass RX1 = some m.cls := findClass_of_methodNamed B.named
  have hlocks := B.notSynchronized
  clear B
  have hl := lv_entry ([.int x0, .int x1, .int x2]) (n := 3) (Nat.le_of_ble_eq_true rfl)
  rw [lg_entry_eq]
  generalize (lg_sl ([.int x0, .int x1, .int x2]) ++ List.replicate (3 - (lg_sl ([.int x0, .int x1, .int x2])).length) Slot.unset).toArray = ls at hl ⊢
  replace hl : lv_has ls 3 [(0, .int x0), (1, .int x1), (2, .int x2)] := hl
  refine lv_iload_n hx hb dX1_join_0 rfl (lv_at hl 0 rfl) ?_
  by_cases c1_m16 : x0 = (-16)
  · obtain rfl := c1_m16
    refine lv_tableIn (off := 140) (tgt := 141) hx hb dX1_join_1 (by decide) (by decide) (by decide) (by decide) ?_
    refine lv_iload_n hx hb dX1_join_141 rfl (lv_at hl 2 rfl) ?_
    refine lv_if_ne (tgt := 149) hx hb dX1_join_142 (by decide) (fun c142 => ?_) (fun c142 => ?_)
    · refine lv_iload_n hx hb dX1_join_149 rfl (lv_at hl 1 rfl) ?_
      refine lv_iload_n hx hb dX1_join_150 rfl (lv_at hl 2 rfl) ?_
      refine lv_irem hx hb dX1_join_151 c142 ?_
      refine lv_topi (fun y151 _ => ?_)
      exact W.iret (v := y151) hx hb hr (fun t ht hW => ⟨y151, rfl, trivial, ht⟩) (fun q hq => by cases hq) dX1_join_152
    · have be142f_x2 : zB x2 0 0 := zB_eq c142 (zB_top x2) (show zB 0 0 0 from ⟨by decide, by decide⟩) (by decide) (by decide)
      refine lv_iconst (v := 0) hx hb dX1_join_145 (by decide) ?_
      refine lv_goto (tgt := 152) hx hb dX1_join_146 (by decide) ?_
      exact W.iret (v := 0) hx hb hr (fun t ht hW => ⟨0, rfl, trivial, ht⟩) (fun q hq => by cases hq) dX1_join_152
  by_cases c1_m15 : x0 = (-15)
  · obtain rfl := c1_m15
    refine lv_tableIn (off := 128) (tgt := 129) hx hb dX1_join_1 (by decide) (by decide) (by decide) (by decide) ?_
    refine lv_iload_n hx hb dX1_join_129 rfl (lv_at hl 2 rfl) ?_
    refine lv_if_ne (tgt := 137) hx hb dX1_join_130 (by decide) (fun c130 => ?_) (fun c130 => ?_)
    · refine lv_iload_n hx hb dX1_join_137 rfl (lv_at hl 1 rfl) ?_
      refine lv_iload_n hx hb dX1_join_138 rfl (lv_at hl 2 rfl) ?_
      refine lv_idiv hx hb dX1_join_139 c130 ?_
      refine lv_topi (fun y139 _ => ?_)
      exact W.iret (v := y139) hx hb hr (fun t ht hW => ⟨y139, rfl, trivial, ht⟩) (fun q hq => by cases hq) dX1_join_140
    · have be130f_x2 : zB x2 0 0 := zB_eq c130 (zB_top x2) (show zB 0 0 0 from ⟨by decide, by decide⟩) (by decide) (by decide)
      refine lv_iconst (v := 0) hx hb dX1_join_133 (by decide) ?_
      refine lv_goto (tgt := 140) hx hb dX1_join_134 (by decide) ?_
      exact W.iret (v := 0) hx hb hr (fun t ht hW => ⟨0, rfl, trivial, ht⟩) (fun q hq => by cases hq) dX1_join_140
  by_cases c1_m14 : x0 = (-14)
  · obtain rfl := c1_m14
    refine lv_tableIn (off := 124) (tgt := 125) hx hb dX1_join_1 (by decide) (by decide) (by decide) (by decide) ?_
    refine lv_iload_n hx hb dX1_join_125 rfl (lv_at hl 1 rfl) ?_
    refine lv_iload_n hx hb dX1_join_126 rfl (lv_at hl 2 rfl) ?_
    refine lv_imul hx hb dX1_join_127 ?_
    refine lv_topi (fun y127 _ => ?_)
    exact W.iret (v := y127) hx hb hr (fun t ht hW => ⟨y127, rfl, trivial, ht⟩) (fun q hq => by cases hq) dX1_join_128
  by_cases c1_m13 : x0 = (-13)
  · obtain rfl := c1_m13
    refine lv_tableIn (off := 120) (tgt := 121) hx hb dX1_join_1 (by decide) (by decide) (by decide) (by decide) ?_
    refine lv_iload_n hx hb dX1_join_121 rfl (lv_at hl 1 rfl) ?_
    refine lv_iload_n hx hb dX1_join_122 rfl (lv_at hl 2 rfl) ?_
    refine lv_isub hx hb dX1_join_123 ?_
    refine lv_topi (fun y123 _ => ?_)
    exact W.iret (v := y123) hx hb hr (fun t ht hW => ⟨y123, rfl, trivial, ht⟩) (fun q hq => by cases hq) dX1_join_124
  by_cases c1_m12 : x0 = (-12)
  · obtain rfl := c1_m12
    refine lv_tableIn (off := 116) (tgt := 117) hx hb dX1_join_1 (by decide) (by decide) (by decide) (by decide) ?_
    refine lv_iload_n hx hb dX1_join_117 rfl (lv_at hl 1 rfl) ?_
    refine lv_iload_n hx hb dX1_join_118 rfl (lv_at hl 2 rfl) ?_
    refine lv_iadd hx hb dX1_join_119 ?_
    refine lv_topi (fun y119 _ => ?_)
    exact W.iret (v := y119) hx hb hr (fun t ht hW => ⟨y119, rfl, trivial, ht⟩) (fun q hq => by cases hq) dX1_join_120
  by_cases c1_m11 : x0 = (-11)
  · obtain rfl := c1_m11
    refine lv_tableIn (off := 105) (tgt := 106) hx hb dX1_join_1 (by decide) (by decide) (by decide) (by decide) ?_
    refine lv_iload_n hx hb dX1_join_106 rfl (lv_at hl 1 rfl) ?_
    refine lv_iload_n hx hb dX1_join_107 rfl (lv_at hl 2 rfl) ?_
    refine lv_icmp_ne (tgt := 115) hx hb dX1_join_108 (by decide) (fun c108 => ?_) (fun c108 => ?_)
    · refine lv_iconst (v := 0) hx hb dX1_join_115 (by decide) ?_
      exact W.iret (v := 0) hx hb hr (fun t ht hW => ⟨0, rfl, trivial, ht⟩) (fun q hq => by cases hq) dX1_join_116
    · refine lv_iconst (v := 1) hx hb dX1_join_111 (by decide) ?_
      refine lv_goto (tgt := 116) hx hb dX1_join_112 (by decide) ?_
      exact W.iret (v := 1) hx hb hr (fun t ht hW => ⟨1, rfl, trivial, ht⟩) (fun q hq => by cases hq) dX1_join_116
  by_cases c1_m10 : x0 = (-10)
  · obtain rfl := c1_m10
    refine lv_tableIn (off := 94) (tgt := 95) hx hb dX1_join_1 (by decide) (by decide) (by decide) (by decide) ?_
    refine lv_iload_n hx hb dX1_join_95 rfl (lv_at hl 1 rfl) ?_
    refine lv_iload_n hx hb dX1_join_96 rfl (lv_at hl 2 rfl) ?_
    refine lv_icmp_le (tgt := 104) hx hb dX1_join_97 (by decide) (fun c97 => ?_) (fun c97 => ?_)
    · refine lv_iconst (v := 0) hx hb dX1_join_104 (by decide) ?_
      exact W.iret (v := 0) hx hb hr (fun t ht hW => ⟨0, rfl, trivial, ht⟩) (fun q hq => by cases hq) dX1_join_105
    · have bx97f_x2 : zB x2 (-2147483648) 2147483646 := zB_ltu (zf c97) (zB_top x2) (zB_top x1) (by decide)
      have by97f_x1 : zB x1 (-2147483647) 2147483647 := zB_ltv (zf c97) bx97f_x2 (zB_top x1) (by decide)
      refine lv_iconst (v := 1) hx hb dX1_join_100 (by decide) ?_
      refine lv_goto (tgt := 105) hx hb dX1_join_101 (by decide) ?_
      exact W.iret (v := 1) hx hb hr (fun t ht hW => ⟨1, rfl, trivial, ht⟩) (fun q hq => by cases hq) dX1_join_105
  by_cases c1_m9 : x0 = (-9)
  · obtain rfl := c1_m9
    refine lv_tableIn (off := 83) (tgt := 84) hx hb dX1_join_1 (by decide) (by decide) (by decide) (by decide) ?_
    refine lv_iload_n hx hb dX1_join_84 rfl (lv_at hl 1 rfl) ?_
    refine lv_iload_n hx hb dX1_join_85 rfl (lv_at hl 2 rfl) ?_
    refine lv_icmp_ge (tgt := 93) hx hb dX1_join_86 (by decide) (fun c86 => ?_) (fun c86 => ?_)
    · refine lv_iconst (v := 0) hx hb dX1_join_93 (by decide) ?_
      exact W.iret (v := 0) hx hb hr (fun t ht hW => ⟨0, rfl, trivial, ht⟩) (fun q hq => by cases hq) dX1_join_94
    · have bx86f_x1 : zB x1 (-2147483648) 2147483646 := zB_ltu (zf c86) (zB_top x1) (zB_top x2) (by decide)
      have by86f_x2 : zB x2 (-2147483647) 2147483647 := zB_ltv (zf c86) bx86f_x1 (zB_top x2) (by decide)
      refine lv_iconst (v := 1) hx hb dX1_join_89 (by decide) ?_
      refine lv_goto (tgt := 94) hx hb dX1_join_90 (by decide) ?_
      exact W.iret (v := 1) hx hb hr (fun t ht hW => ⟨1, rfl, trivial, ht⟩) (fun q hq => by cases hq) dX1_join_94
  by_cases c1_m8 : x0 = (-8)
  · obtain rfl := c1_m8
    refine lv_tableIn (off := 69) (tgt := 70) hx hb dX1_join_1 (by decide) (by decide) (by decide) (by decide) ?_
    refine lv_iload_n hx hb dX1_join_70 rfl (lv_at hl 1 rfl) ?_
    refine lv_if_eq (tgt := 82) hx hb dX1_join_71 (by decide) (fun c71 => ?_) (fun c71 => ?_)
    · have be71t_x1 : zB x1 0 0 := zB_eq c71 (zB_top x1) (show zB 0 0 0 from ⟨by decide, by decide⟩) (by decide) (by decide)
      refine lv_iconst (v := 0) hx hb dX1_join_82 (by decide) ?_
      exact W.iret (v := 0) hx hb hr (fun t ht hW => ⟨0, rfl, trivial, ht⟩) (fun q hq => by cases hq) dX1_join_83
    · refine lv_iload_n hx hb dX1_join_74 rfl (lv_at hl 2 rfl) ?_
      refine lv_if_eq (tgt := 82) hx hb dX1_join_75 (by decide) (fun c75 => ?_) (fun c75 => ?_)
      · have be75t_x2 : zB x2 0 0 := zB_eq c75 (zB_top x2) (show zB 0 0 0 from ⟨by decide, by decide⟩) (by decide) (by decide)
        refine lv_iconst (v := 0) hx hb dX1_join_82 (by decide) ?_
        exact W.iret (v := 0) hx hb hr (fun t ht hW => ⟨0, rfl, trivial, ht⟩) (fun q hq => by cases hq) dX1_join_83
      · refine lv_iconst (v := 1) hx hb dX1_join_78 (by decide) ?_
        refine lv_goto (tgt := 83) hx hb dX1_join_79 (by decide) ?_
        exact W.iret (v := 1) hx hb hr (fun t ht hW => ⟨1, rfl, trivial, ht⟩) (fun q hq => by cases hq) dX1_join_83
  by_cases c1_m7 : x0 = (-7)
  · obtain rfl := c1_m7
    refine lv_tableIn (off := 55) (tgt := 56) hx hb dX1_join_1 (by decide) (by decide) (by decide) (by decide) ?_
    refine lv_iload_n hx hb dX1_join_56 rfl (lv_at hl 1 rfl) ?_
    refine lv_if_ne (tgt := 64) hx hb dX1_join_57 (by decide) (fun c57 => ?_) (fun c57 => ?_)
    · refine lv_iconst (v := 1) hx hb dX1_join_64 (by decide) ?_
      refine lv_goto (tgt := 69) hx hb dX1_join_65 (by decide) ?_
      exact W.iret (v := 1) hx hb hr (fun t ht hW => ⟨1, rfl, trivial, ht⟩) (fun q hq => by cases hq) dX1_join_69
    · have be57f_x1 : zB x1 0 0 := zB_eq c57 (zB_top x1) (show zB 0 0 0 from ⟨by decide, by decide⟩) (by decide) (by decide)
      refine lv_iload_n hx hb dX1_join_60 rfl (lv_at hl 2 rfl) ?_
      refine lv_if_eq (tgt := 68) hx hb dX1_join_61 (by decide) (fun c61 => ?_) (fun c61 => ?_)
      · have be61t_x2 : zB x2 0 0 := zB_eq c61 (zB_top x2) (show zB 0 0 0 from ⟨by decide, by decide⟩) (by decide) (by decide)
        refine lv_iconst (v := 0) hx hb dX1_join_68 (by decide) ?_
        exact W.iret (v := 0) hx hb hr (fun t ht hW => ⟨0, rfl, trivial, ht⟩) (fun q hq => by cases hq) dX1_join_69
      · refine lv_iconst (v := 1) hx hb dX1_join_64 (by decide) ?_
        refine lv_goto (tgt := 69) hx hb dX1_join_65 (by decide) ?_
        exact W.iret (v := 1) hx hb hr (fun t ht hW => ⟨1, rfl, trivial, ht⟩) (fun q hq => by cases hq) dX1_join_69
  refine lv_tableOut (tgt := 153) hx hb dX1_join_1 (by have h9_0 := zn (n := (-16)) c1_m16 (by decide); have h9_1 := zn (n := (-15)) c1_m15 (by decide); have h9_2 := zn (n := (-14)) c1_m14 (by decide); have h9_3 := zn (n := (-13)) c1_m13 (by decide); have h9_4 := zn (n := (-12)) c1_m12 (by decide); have h9_5 := zn (n := (-11)) c1_m11 (by decide); have h9_6 := zn (n := (-10)) c1_m10 (by decide); have h9_7 := zn (n := (-9)) c1_m9 (by decide); have h9_8 := zn (n := (-8)) c1_m8 (by decide); have h9_9 := zn (n := (-7)) c1_m7 (by decide); omega) (by decide) ?_
  refine lv_iconst (v := 0) hx hb dX1_join_153 (by decide) ?_
  exact W.iret (v := 0) hx hb hr (fun t ht hW => ⟨0, rfl, trivial, ht⟩) (fun q hq => by cases hq) dX1_join_154
set_option maxHeartbeats 4000000 in
set_option maxRecDepth 100000 in
theorem c_X1_work (l : Launch) (D : va_G) (cI : ClassId) (cB : ClassId) (cL : ClassId) (cZ : ClassId) (cG : ClassId) (FO : Nat) (aFO : Nat → Nat) (FO_size : Int32) (FO_units : Int32) (FO_told : Int32) (FO_steps : Nat → Int32) (FO_stack : Nat → Int32) (FO_known : Nat → Int32) (sz : Nat) (b_FO_size : zB FO_size 0 400) : Met l yX1_work wsX1_work ({ frames := 1, cells := 0, slots := 0, locals := 22 }) (xp D [(cI, .int), (cB, .byte), (cL, .long), (cZ, .boolean), (cG, .array .int)] [(FO, .inr (1, oX1 aFO FO_size FO_units FO_told)), ((aFO 0), .inl (cI, 400, .inl FO_steps)), ((aFO 1), .inl (cI, 61, .inl FO_stack)), ((aFO 2), .inl (cI, 5, .inl FO_known))] sz [] [.ref FO]) (va_Qi (fun (r : Int32) (_ : Unit) => True) (fun (_ : Unit) (t : State) => ∃ (nFOstack : Nat → Int32), xB D (va_A [(FO, .inr (1, oX1 aFO FO_size FO_units FO_told)), ((aFO 0), .inl (cI, 400, .inl FO_steps)), ((aFO 1), .inl (cI, 61, .inl FO_stack)), ((aFO 2), .inl (cI, 5, .inl FO_known))] sz) [(FO, .inr (1, oX1 aFO FO_size FO_units FO_told)), ((aFO 0), .inl (cI, 400, .inl FO_steps)), ((aFO 1), .inl (cI, 61, .inl nFOstack)), ((aFO 2), .inl (cI, 5, .inl FO_known))] t) (va_A [(FO, .inr (1, oX1 aFO FO_size FO_units FO_told)), ((aFO 0), .inl (cI, 400, .inl FO_steps)), ((aFO 1), .inl (cI, 61, .inl FO_stack)), ((aFO 2), .inl (cI, 5, .inl FO_known))] sz)) 0 0 (va_A [(FO, .inr (1, oX1 aFO FO_size FO_units FO_told)), ((aFO 0), .inl (cI, 400, .inl FO_steps)), ((aFO 1), .inl (cI, 61, .inl FO_stack)), ((aFO 2), .inl (cI, 5, .inl FO_known))] sz) := by
  refine Met.ofW (cc := cX1_work) (maxL := 4) (ret := (some .int)) (by decide) rfl ?_
  intro p e s m args below meth c s₁ B hml hv
  obtain ⟨rfl, hsz, hP, hK, hD0, hNw⟩ := hv
  have hx := B.exec
  have hb := B.bytes
  have hr := B.returns
  have hts := atoms_spec (ws := wsX1_work) B.pre
  have hown : s.vm.findClass RX1 = some m.cls := findClass_of_methodNamed B.named
  have hlocks := B.notSynchronized
  clear B
  subst hsz
  have hD := hD0.self (sz := s.heap.size)
  clear hD0 hNw
  generalize hAe : va_A [(FO, .inr (1, oX1 aFO FO_size FO_units FO_told)), ((aFO 0), .inl (cI, 400, .inl FO_steps)), ((aFO 1), .inl (cI, 61, .inl FO_stack)), ((aFO 2), .inl (cI, 5, .inl FO_known))] s.heap.size = A at hD ⊢
  have hA : ∀ q : Nat, s.heap.size ≤ q → A q := fun q h => by rw [← hAe]; exact Or.inr h
  have hS : va_S A s.heap s.heap [] := va_S.rf
  clear hAe
  obtain ⟨H, hH⟩ : ∃ H : Heap, H = s.heap := ⟨_, rfl⟩
  obtain ⟨locs, hlocs⟩ : ∃ L : List Loc, L = [] := ⟨_, rfl⟩
  replace hP : va_P D classes [(FO, .inr (1, oX1 aFO FO_size FO_units FO_told)), ((aFO 0), .inl (cI, 400, .inl FO_steps)), ((aFO 1), .inl (cI, 61, .inl FO_stack)), ((aFO 2), .inl (cI, 5, .inl FO_known))] H := by rw [hH]; exact hP
  replace hS : va_S A s.heap H locs := by rw [hH, hlocs]; exact hS
  rw [← hH, ← hlocs]
  clear hlocs hH
  have hl := lv_entry ([.ref FO]) (n := 4) (Nat.le_of_ble_eq_true rfl)
  rw [lg_entry_eq]
  generalize (lg_sl ([.ref FO]) ++ List.replicate (4 - (lg_sl ([.ref FO])).length) Slot.unset).toArray = ls at hl ⊢
  replace hl : lv_has ls 4 [(0, .ref FO)] := hl
  refine zz_abs (R := ({ frames := 1, cells := 0, slots := 0, locals := 22 } : Room)) (fun Q up => ?_)
  refine lv_iconst (v := 0) hx hb dX1_work_0 (by decide) ?_
  refine lv_istore_n (lv' := [(1, .int 0), (0, .ref FO)]) hx hb dX1_work_1 rfl hl (by decide) rfl (fun ls hl => ?_)
  refine lv_iconst (v := 0) hx hb dX1_work_2 (by decide) ?_
  have j4 : ∀ (n4 : Nat) (H : Heap) (locs : List Loc) (ls : Array Slot) (v4_2 : Int32) (v4_1 : Int32) (g4_aFO1 : Nat → Int32), zB v4_2 0 400 → zB v4_1 0 61 → (400 + 1 - v4_2.toInt) ≤ (n4 : Int) → va_P D classes [(FO, .inr (1, oX1 aFO FO_size FO_units FO_told)), ((aFO 0), .inl (cI, 400, .inl FO_steps)), ((aFO 1), .inl (cI, 61, .inl g4_aFO1)), ((aFO 2), .inl (cI, 5, .inl FO_known))] H → va_D A [(FO, .inr (1, oX1 aFO FO_size FO_units FO_told)), ((aFO 0), .inl (cI, 400, .inl FO_steps)), ((aFO 1), .inl (cI, 61, .inl g4_aFO1)), ((aFO 2), .inl (cI, 5, .inl FO_known))] → va_S A s.heap H locs → lv_has ls 4 [(2, .int v4_2), (1, .int v4_1), (0, .ref FO)] → W p l e ({ frames := 1, cells := 0, slots := 0, locals := 22 } : Room) s m ([.ref FO] : List Value).toArray below meth c H locs 0 0 Q (F0 m 4 ls []) := by
    intro n4
    induction n4 with
    | zero => intro H locs ls v4_2 v4_1 g4_aFO1 bv4_2_k4 bv4_1_k4 hm4 hP hD hS hl; exact zM_u0 bv4_2_k4 hm4
    | succ n4 ih4 =>
      intro H locs ls v4_2 v4_1 g4_aFO1 bv4_2_k4 bv4_1_k4 hm4 hP hD hS hl
      refine lv_iload_n hx hb dX1_work_4 rfl (lv_at hl 0 rfl) ?_
      refine lv_aload_n hx hb dX1_work_5 rfl (lv_at hl 2 rfl) ?_
      refine va_get (D := D) (ci := 1) (v := .int FO_size) (C := RX1) (T := TX1) (N := 6) hx hb hts iw_X1_work_X1 hown hK hP 0 rfl rfl 3 (by decide) (hts (.fieldLink RX1 19 "SoldHouse$Formula" "size" "I") (List.mem_of_getElem? (i := 1) rfl)) (fun _ h9 => h9) rfl dX1_work_6 ?_
      refine lv_icmp_ge (tgt := 139) hx hb dX1_work_9 (by decide) (fun c9 => ?_) (fun c9 => ?_)
      · refine lv_iload_n hx hb dX1_work_139 rfl (lv_at hl 1 rfl) ?_
        refine lv_if_le (tgt := 152) hx hb dX1_work_140 (by decide) (fun c140 => ?_) (fun c140 => ?_)
        · have bx140t_v4_1 : zB v4_1 0 0 := zB_leu (ze c140) bv4_1_k4 (show zB 0 0 0 from ⟨by decide, by decide⟩) (by decide)
          refine lv_iconst (v := 0) hx hb dX1_work_152 (by decide) ?_
          exact up _ _ _ (W.iret (v := 0) hx hb hr (fun t ht hW => ⟨⟨0, (), rfl, trivial, ⟨g4_aFO1, by rw [ht]; exact hP, hD⟩⟩, hS.F ht⟩) hS.2.2 dX1_work_153)
        · have by140f_v4_1 : zB v4_1 1 61 := zB_ltv (zf c140) (show zB 0 0 0 from ⟨by decide, by decide⟩) bv4_1_k4 (by decide)
          refine lv_aload_n hx hb dX1_work_143 rfl (lv_at hl 2 rfl) ?_
          refine va_get (D := D) (ci := 1) (v := .ref (aFO 1)) (C := RX1) (T := TX1) (N := 6) hx hb hts iw_X1_work_X1 hown hK hP 0 rfl rfl 1 (by decide) (hts (.fieldLink RX1 13 "SoldHouse$Formula" "stack" "[I") (List.mem_of_getElem? (i := 3) rfl)) (fun _ h9 => h9) rfl dX1_work_144 ?_
          refine lv_iconst (v := 0) hx hb dX1_work_147 (by decide) ?_
          refine va_iald hx hb hK hP 2 0 rfl rfl (zB_in (show zB 0 0 0 from ⟨by decide, by decide⟩) (by decide) (by decide)) dX1_work_148 ?_
          refine lv_topi (fun y148 _ => ?_)
          refine lv_goto (tgt := 153) hx hb dX1_work_149 (by decide) ?_
          exact up _ _ _ (W.iret (v := y148) hx hb hr (fun t ht hW => ⟨⟨y148, (), rfl, trivial, ⟨g4_aFO1, by rw [ht]; exact hP, hD⟩⟩, hS.F ht⟩) hS.2.2 dX1_work_153)
      · have bx9f_v4_2 : zB v4_2 0 399 := zB_ltu (zf c9) bv4_2_k4 b_FO_size (by decide)
        have by9f_FO_size : zB FO_size 1 400 := zB_ltv (zf c9) bx9f_v4_2 b_FO_size (by decide)
        refine lv_aload_n hx hb dX1_work_12 rfl (lv_at hl 2 rfl) ?_
        refine va_get (D := D) (ci := 1) (v := .ref (aFO 0)) (C := RX1) (T := TX1) (N := 6) hx hb hts iw_X1_work_X1 hown hK hP 0 rfl rfl 0 (by decide) (hts (.fieldLink RX1 9 "SoldHouse$Formula" "steps" "[I") (List.mem_of_getElem? (i := 2) rfl)) (fun _ h9 => h9) rfl dX1_work_13 ?_
        refine lv_iload_n hx hb dX1_work_16 rfl (lv_at hl 0 rfl) ?_
        refine va_iald hx hb hK hP 1 0 rfl rfl (zB_in bx9f_v4_2 (by decide) (by decide)) dX1_work_17 ?_
        refine lv_topi (fun y17 _ => ?_)
        refine lv_istore_n (lv' := [(3, .int y17), (2, .int v4_2), (1, .int v4_1), (0, .ref FO)]) hx hb dX1_work_18 rfl hl (by decide) rfl (fun ls hl => ?_)
        refine lv_iload_n hx hb dX1_work_19 rfl (lv_at hl 0 rfl) ?_
        refine lv_bipush (v := (-6)) hx hb dX1_work_20 (by decide) ?_
        have j133 : ∀ (H : Heap) (locs : List Loc) (ls : Array Slot) (v133_1 : Int32) (g133_aFO1 : Nat → Int32), zB v133_1 0 61 → va_P D classes [(FO, .inr (1, oX1 aFO FO_size FO_units FO_told)), ((aFO 0), .inl (cI, 400, .inl FO_steps)), ((aFO 1), .inl (cI, 61, .inl g133_aFO1)), ((aFO 2), .inl (cI, 5, .inl FO_known))] H → va_D A [(FO, .inr (1, oX1 aFO FO_size FO_units FO_told)), ((aFO 0), .inl (cI, 400, .inl FO_steps)), ((aFO 1), .inl (cI, 61, .inl g133_aFO1)), ((aFO 2), .inl (cI, 5, .inl FO_known))] → va_S A s.heap H locs → lv_has ls 4 [(3, .int y17), (2, .int v4_2), (1, .int v133_1), (0, .ref FO)] → W p l e ({ frames := 1, cells := 0, slots := 0, locals := 22 } : Room) s m ([.ref FO] : List Value).toArray below meth c H locs 0 0 Q (F0 m 133 ls []) := by
          intro H locs ls v133_1 g133_aFO1 bv133_1_k133 hP hD hS hl
          obtain ⟨y133, by133, ry133, ey133⟩ := zi_inc (x := v4_2) (k := 1) (a := 1) (b := 400) bx9f_v4_2 (by decide) (by decide) (by decide) (by decide) (by decide)
          refine lv_iinc (v := y133) (lv' := [(2, .int y133), (3, .int y17), (1, .int v133_1), (0, .ref FO)]) hx hb dX1_work_133 hl (k := 1) rfl ey133 (by decide) rfl (fun ls hl => ?_)
          refine lv_goto (tgt := 4) hx hb dX1_work_136 (by decide) ?_
          exact ih4 H locs ls y133 v133_1 g133_aFO1 (zB_w by133 (by decide) (by decide)) bv133_1_k133 (zM_us (k := 1) hm4 ry133 (by decide)) hP hD hS (lv_sub hl [0, 2, 3] rfl)
        refine lv_icmp_le (tgt := 62) hx hb dX1_work_22 (by decide) (fun c22 => ?_) (fun c22 => ?_)
        · have bx22t_y17 : zB y17 (-2147483648) (-6) := zB_leu (ze c22) (zB_top y17) (show zB (-6) (-6) (-6) from ⟨by decide, by decide⟩) (by decide)
          refine lv_iload_n hx hb dX1_work_62 rfl (lv_at hl 0 rfl) ?_
          refine lv_bipush (v := (-6)) hx hb dX1_work_63 (by decide) ?_
          refine lv_icmp_ne (tgt := 99) hx hb dX1_work_65 (by decide) (fun c65 => ?_) (fun c65 => ?_)
          · have bn65t_y17 : zB y17 (-2147483648) (-7) := zB_neH c65 bx22t_y17 (show zB (-6) (-6) (-6) from ⟨by decide, by decide⟩) (by decide)
            refine lv_iload_n hx hb dX1_work_99 rfl (lv_at hl 2 rfl) ?_
            refine lv_iconst (v := 1) hx hb dX1_work_100 (by decide) ?_
            refine lv_icmp_le (tgt := 133) hx hb dX1_work_101 (by decide) (fun c101 => ?_) (fun c101 => ?_)
            · have bx101t_v4_1 : zB v4_1 0 1 := zB_leu (ze c101) bv4_1_k4 (show zB 1 1 1 from ⟨by decide, by decide⟩) (by decide)
              exact j133 H locs ls v4_1 g4_aFO1 (zB_w bx101t_v4_1 (by decide) (by decide)) hP hD hS (lv_sub hl [0, 1, 2, 3] rfl)
            · have by101f_v4_1 : zB v4_1 2 61 := zB_ltv (zf c101) (show zB 1 1 1 from ⟨by decide, by decide⟩) bv4_1_k4 (by decide)
              obtain ⟨y104, by104, ry104, ey104⟩ := zi_inc (x := v4_1) (k := (-1)) (a := 1) (b := 60) by101f_v4_1 (by decide) (by decide) (by decide) (by decide) (by decide)
              refine lv_iinc (v := y104) (lv' := [(1, .int y104), (3, .int y17), (2, .int v4_2), (0, .ref FO)]) hx hb dX1_work_104 hl (k := 2) rfl ey104 (by decide) rfl (fun ls hl => ?_)
              refine lv_aload_n hx hb dX1_work_107 rfl (lv_at hl 3 rfl) ?_
              refine va_get (D := D) (ci := 1) (v := .ref (aFO 1)) (C := RX1) (T := TX1) (N := 6) hx hb hts iw_X1_work_X1 hown hK hP 0 rfl rfl 1 (by decide) (hts (.fieldLink RX1 13 "SoldHouse$Formula" "stack" "[I") (List.mem_of_getElem? (i := 3) rfl)) (fun _ h9 => h9) rfl dX1_work_108 ?_
              refine lv_iload_n hx hb dX1_work_111 rfl (lv_at hl 0 rfl) ?_
              refine lv_iconst (v := 1) hx hb dX1_work_112 (by decide) ?_
              refine lv_isub hx hb dX1_work_113 ?_
              refine zi_top2 (P := fun y => y.toInt = y104.toInt + (-1)) (a := 0) (b := 59) (zB_sub by104 (show zB 1 1 1 from ⟨by decide, by decide⟩) (by decide) (by decide) (by decide) (by decide)) (zR_subc by104 (by decide) (by decide) (by decide)) (fun y113 by113 ry113 => ?_)
              refine lv_iload_n hx hb dX1_work_114 rfl (lv_at hl 1 rfl) ?_
              refine lv_aload_n hx hb dX1_work_115 rfl (lv_at hl 3 rfl) ?_
              refine va_get (D := D) (ci := 1) (v := .ref (aFO 1)) (C := RX1) (T := TX1) (N := 6) hx hb hts iw_X1_work_X1 hown hK hP 0 rfl rfl 1 (by decide) (hts (.fieldLink RX1 13 "SoldHouse$Formula" "stack" "[I") (List.mem_of_getElem? (i := 3) rfl)) (fun _ h9 => h9) rfl dX1_work_116 ?_
              refine lv_iload_n hx hb dX1_work_119 rfl (lv_at hl 0 rfl) ?_
              refine lv_iconst (v := 1) hx hb dX1_work_120 (by decide) ?_
              refine lv_isub hx hb dX1_work_121 ?_
              refine zi_top2 (P := fun y => y.toInt = y104.toInt + (-1)) (a := 0) (b := 59) (zB_sub by104 (show zB 1 1 1 from ⟨by decide, by decide⟩) (by decide) (by decide) (by decide) (by decide)) (zR_subc by104 (by decide) (by decide) (by decide)) (fun y121 by121 ry121 => ?_)
              refine va_iald hx hb hK hP 2 0 rfl rfl (zB_in by121 (by decide) (by decide)) dX1_work_122 ?_
              refine lv_topi (fun y122 _ => ?_)
              refine lv_aload_n hx hb dX1_work_123 rfl (lv_at hl 3 rfl) ?_
              refine va_get (D := D) (ci := 1) (v := .ref (aFO 1)) (C := RX1) (T := TX1) (N := 6) hx hb hts iw_X1_work_X1 hown hK hP 0 rfl rfl 1 (by decide) (hts (.fieldLink RX1 13 "SoldHouse$Formula" "stack" "[I") (List.mem_of_getElem? (i := 3) rfl)) (fun _ h9 => h9) rfl dX1_work_124 ?_
              refine lv_iload_n hx hb dX1_work_127 rfl (lv_at hl 0 rfl) ?_
              refine va_iald hx hb hK hP 2 0 rfl rfl (zB_in by104 (by decide) (by decide)) dX1_work_128 ?_
              refine lv_topi (fun y128 _ => ?_)
              have hPc := hP.sub (ws' := []) [] rfl
              refine vp_callSi (va_runS (As := [.int y17, .int y122, .int y128]) (rest := [.int y113, .ref (aFO 1)]) ⟨hx, hb, hml, hown, hts⟩ (c_X1_join l D cI cB cL cZ cG y17 y122 y128) (va_cwS 3 hts gX1_work_X1_join rfl rfl rfl (by decide +kernel) ⟨Nat.le_of_ble_eq_true rfl, Nat.le_of_ble_eq_true rfl⟩) ⟨xr_blind, fun U hU hW => xr_mk hU hW hPc hK⟩ rfl rfl hl.1 rfl (lv_room (Nat.le_of_ble_eq_true rfl)) dX1_work_129 ⟨Nat.le_of_ble_eq_true rfl, Nat.le_of_ble_eq_true rfl⟩).run (fun r129 hr129 => ?_)
              clear hPc
              clear hr129
              refine zi_iast hx hb hK hP hD hS 2 0 rfl rfl (zB_in by113 (by decide) (by decide)) dX1_work_132 (fun H locs g132 eg132 hP hD hS => ?_)
              replace hP : va_P D classes [(FO, .inr (1, oX1 aFO FO_size FO_units FO_told)), ((aFO 0), .inl (cI, 400, .inl FO_steps)), ((aFO 1), .inl (cI, 61, .inl g132)), ((aFO 2), .inl (cI, 5, .inl FO_known))] H := hP
              replace hD : va_D A [(FO, .inr (1, oX1 aFO FO_size FO_units FO_told)), ((aFO 0), .inl (cI, 400, .inl FO_steps)), ((aFO 1), .inl (cI, 61, .inl g132)), ((aFO 2), .inl (cI, 5, .inl FO_known))] := hD
              clear eg132
              exact j133 H locs ls y104 g132 (zB_w by104 (by decide) (by decide)) hP hD hS (lv_sub hl [1, 2, 0, 3] rfl)
          · have be65f_y17 : zB y17 (-6) (-6) := zB_eq c65 bx22t_y17 (show zB (-6) (-6) (-6) from ⟨by decide, by decide⟩) (by decide) (by decide)
            refine lv_iload_n hx hb dX1_work_68 rfl (lv_at hl 2 rfl) ?_
            refine lv_if_le (tgt := 133) hx hb dX1_work_69 (by decide) (fun c69 => ?_) (fun c69 => ?_)
            · have bx69t_v4_1 : zB v4_1 0 0 := zB_leu (ze c69) bv4_1_k4 (show zB 0 0 0 from ⟨by decide, by decide⟩) (by decide)
              exact j133 H locs ls v4_1 g4_aFO1 (zB_w bx69t_v4_1 (by decide) (by decide)) hP hD hS (lv_sub hl [0, 1, 2, 3] rfl)
            · have by69f_v4_1 : zB v4_1 1 61 := zB_ltv (zf c69) (show zB 0 0 0 from ⟨by decide, by decide⟩) bv4_1_k4 (by decide)
              refine lv_aload_n hx hb dX1_work_72 rfl (lv_at hl 3 rfl) ?_
              refine va_get (D := D) (ci := 1) (v := .ref (aFO 1)) (C := RX1) (T := TX1) (N := 6) hx hb hts iw_X1_work_X1 hown hK hP 0 rfl rfl 1 (by decide) (hts (.fieldLink RX1 13 "SoldHouse$Formula" "stack" "[I") (List.mem_of_getElem? (i := 3) rfl)) (fun _ h9 => h9) rfl dX1_work_73 ?_
              refine lv_iload_n hx hb dX1_work_76 rfl (lv_at hl 2 rfl) ?_
              refine lv_iconst (v := 1) hx hb dX1_work_77 (by decide) ?_
              refine lv_isub hx hb dX1_work_78 ?_
              refine zi_top2 (P := fun y => y.toInt = v4_1.toInt + (-1)) (a := 0) (b := 60) (zB_sub by69f_v4_1 (show zB 1 1 1 from ⟨by decide, by decide⟩) (by decide) (by decide) (by decide) (by decide)) (zR_subc by69f_v4_1 (by decide) (by decide) (by decide)) (fun y78 by78 ry78 => ?_)
              refine lv_aload_n hx hb dX1_work_79 rfl (lv_at hl 3 rfl) ?_
              refine va_get (D := D) (ci := 1) (v := .ref (aFO 1)) (C := RX1) (T := TX1) (N := 6) hx hb hts iw_X1_work_X1 hown hK hP 0 rfl rfl 1 (by decide) (hts (.fieldLink RX1 13 "SoldHouse$Formula" "stack" "[I") (List.mem_of_getElem? (i := 3) rfl)) (fun _ h9 => h9) rfl dX1_work_80 ?_
              refine lv_iload_n hx hb dX1_work_83 rfl (lv_at hl 2 rfl) ?_
              refine lv_iconst (v := 1) hx hb dX1_work_84 (by decide) ?_
              refine lv_isub hx hb dX1_work_85 ?_
              refine zi_top2 (P := fun y => y.toInt = v4_1.toInt + (-1)) (a := 0) (b := 60) (zB_sub by69f_v4_1 (show zB 1 1 1 from ⟨by decide, by decide⟩) (by decide) (by decide) (by decide) (by decide)) (zR_subc by69f_v4_1 (by decide) (by decide) (by decide)) (fun y85 by85 ry85 => ?_)
              refine va_iald hx hb hK hP 2 0 rfl rfl (zB_in by85 (by decide) (by decide)) dX1_work_86 ?_
              refine lv_topi (fun y86 _ => ?_)
              have j95 : ∀ (H : Heap) (locs : List Loc) (ls : Array Slot) (u95_0 : Int32), zB u95_0 0 1 → va_P D classes [(FO, .inr (1, oX1 aFO FO_size FO_units FO_told)), ((aFO 0), .inl (cI, 400, .inl FO_steps)), ((aFO 1), .inl (cI, 61, .inl g4_aFO1)), ((aFO 2), .inl (cI, 5, .inl FO_known))] H → va_D A [(FO, .inr (1, oX1 aFO FO_size FO_units FO_told)), ((aFO 0), .inl (cI, 400, .inl FO_steps)), ((aFO 1), .inl (cI, 61, .inl g4_aFO1)), ((aFO 2), .inl (cI, 5, .inl FO_known))] → va_S A s.heap H locs → lv_has ls 4 [(3, .int y17), (2, .int v4_2), (1, .int v4_1), (0, .ref FO)] → W p l e ({ frames := 1, cells := 0, slots := 0, locals := 22 } : Room) s m ([.ref FO] : List Value).toArray below meth c H locs 0 0 Q (F0 m 95 ls [.int u95_0, .int y78, .ref (aFO 1)]) := by
                intro H locs ls u95_0 bu95_0_k95 hP hD hS hl
                refine zi_iast hx hb hK hP hD hS 2 0 rfl rfl (zB_in by78 (by decide) (by decide)) dX1_work_95 (fun H locs g95 eg95 hP hD hS => ?_)
                replace hP : va_P D classes [(FO, .inr (1, oX1 aFO FO_size FO_units FO_told)), ((aFO 0), .inl (cI, 400, .inl FO_steps)), ((aFO 1), .inl (cI, 61, .inl g95)), ((aFO 2), .inl (cI, 5, .inl FO_known))] H := hP
                replace hD : va_D A [(FO, .inr (1, oX1 aFO FO_size FO_units FO_told)), ((aFO 0), .inl (cI, 400, .inl FO_steps)), ((aFO 1), .inl (cI, 61, .inl g95)), ((aFO 2), .inl (cI, 5, .inl FO_known))] := hD
                clear eg95
                refine lv_goto (tgt := 133) hx hb dX1_work_96 (by decide) ?_
                exact j133 H locs ls v4_1 g95 (zB_w by69f_v4_1 (by decide) (by decide)) hP hD hS (lv_sub hl [0, 1, 2, 3] rfl)
              refine lv_if_ne (tgt := 94) hx hb dX1_work_87 (by decide) (fun c87 => ?_) (fun c87 => ?_)
              · refine lv_iconst (v := 0) hx hb dX1_work_94 (by decide) ?_
                exact j95 H locs ls 0 (zB_w (show zB 0 0 0 from ⟨by decide, by decide⟩) (by decide) (by decide)) hP hD hS (lv_sub hl [0, 1, 2, 3] rfl)
              · have be87f_y86 : zB y86 0 0 := zB_eq c87 (zB_top y86) (show zB 0 0 0 from ⟨by decide, by decide⟩) (by decide) (by decide)
                refine lv_iconst (v := 1) hx hb dX1_work_90 (by decide) ?_
                refine lv_goto (tgt := 95) hx hb dX1_work_91 (by decide) ?_
                exact j95 H locs ls 1 (zB_w (show zB 1 1 1 from ⟨by decide, by decide⟩) (by decide) (by decide)) hP hD hS (lv_sub hl [0, 1, 2, 3] rfl)
        · have by22f_y17 : zB y17 (-5) 2147483647 := zB_ltv (zf c22) (show zB (-6) (-6) (-6) from ⟨by decide, by decide⟩) (zB_top y17) (by decide)
          refine lv_iload_n hx hb dX1_work_25 rfl (lv_at hl 2 rfl) ?_
          refine lv_aload_n hx hb dX1_work_26 rfl (lv_at hl 3 rfl) ?_
          refine va_get (D := D) (ci := 1) (v := .ref (aFO 1)) (C := RX1) (T := TX1) (N := 6) hx hb hts iw_X1_work_X1 hown hK hP 0 rfl rfl 1 (by decide) (hts (.fieldLink RX1 13 "SoldHouse$Formula" "stack" "[I") (List.mem_of_getElem? (i := 3) rfl)) (fun _ h9 => h9) rfl dX1_work_27 ?_
          refine va_alen (v := 61) hx hb hK hP 2 0 rfl rfl rfl dX1_work_30 ?_
          refine lv_icmp_ge (tgt := 133) hx hb dX1_work_31 (by decide) (fun c31 => ?_) (fun c31 => ?_)
          · have by31t_v4_1 : zB v4_1 61 61 := zB_lev (ze c31) (show zB 61 61 61 from ⟨by decide, by decide⟩) bv4_1_k4 (by decide)
            exact j133 H locs ls v4_1 g4_aFO1 (zB_w by31t_v4_1 (by decide) (by decide)) hP hD hS (lv_sub hl [0, 1, 2, 3] rfl)
          · have bx31f_v4_1 : zB v4_1 0 60 := zB_ltu (zf c31) bv4_1_k4 (show zB 61 61 61 from ⟨by decide, by decide⟩) (by decide)
            refine lv_aload_n hx hb dX1_work_34 rfl (lv_at hl 3 rfl) ?_
            refine va_get (D := D) (ci := 1) (v := .ref (aFO 1)) (C := RX1) (T := TX1) (N := 6) hx hb hts iw_X1_work_X1 hown hK hP 0 rfl rfl 1 (by decide) (hts (.fieldLink RX1 13 "SoldHouse$Formula" "stack" "[I") (List.mem_of_getElem? (i := 3) rfl)) (fun _ h9 => h9) rfl dX1_work_35 ?_
            refine lv_iload_n hx hb dX1_work_38 rfl (lv_at hl 2 rfl) ?_
            refine lv_iload_n hx hb dX1_work_39 rfl (lv_at hl 0 rfl) ?_
            have j55 : ∀ (H : Heap) (locs : List Loc) (ls : Array Slot) (u55_0 : Int32), va_P D classes [(FO, .inr (1, oX1 aFO FO_size FO_units FO_told)), ((aFO 0), .inl (cI, 400, .inl FO_steps)), ((aFO 1), .inl (cI, 61, .inl g4_aFO1)), ((aFO 2), .inl (cI, 5, .inl FO_known))] H → va_D A [(FO, .inr (1, oX1 aFO FO_size FO_units FO_told)), ((aFO 0), .inl (cI, 400, .inl FO_steps)), ((aFO 1), .inl (cI, 61, .inl g4_aFO1)), ((aFO 2), .inl (cI, 5, .inl FO_known))] → va_S A s.heap H locs → lv_has ls 4 [(3, .int y17), (2, .int v4_2), (1, .int v4_1), (0, .ref FO)] → W p l e ({ frames := 1, cells := 0, slots := 0, locals := 22 } : Room) s m ([.ref FO] : List Value).toArray below meth c H locs 0 0 Q (F0 m 55 ls [.int u55_0, .int v4_1, .ref (aFO 1)]) := by
              intro H locs ls u55_0 hP hD hS hl
              refine zi_iast hx hb hK hP hD hS 2 0 rfl rfl (zB_in bx31f_v4_1 (by decide) (by decide)) dX1_work_55 (fun H locs g55 eg55 hP hD hS => ?_)
              replace hP : va_P D classes [(FO, .inr (1, oX1 aFO FO_size FO_units FO_told)), ((aFO 0), .inl (cI, 400, .inl FO_steps)), ((aFO 1), .inl (cI, 61, .inl g55)), ((aFO 2), .inl (cI, 5, .inl FO_known))] H := hP
              replace hD : va_D A [(FO, .inr (1, oX1 aFO FO_size FO_units FO_told)), ((aFO 0), .inl (cI, 400, .inl FO_steps)), ((aFO 1), .inl (cI, 61, .inl g55)), ((aFO 2), .inl (cI, 5, .inl FO_known))] := hD
              clear eg55
              obtain ⟨y56, by56, ry56, ey56⟩ := zi_inc (x := v4_1) (k := 1) (a := 1) (b := 61) bx31f_v4_1 (by decide) (by decide) (by decide) (by decide) (by decide)
              refine lv_iinc (v := y56) (lv' := [(1, .int y56), (3, .int y17), (2, .int v4_2), (0, .ref FO)]) hx hb dX1_work_56 hl (k := 2) rfl ey56 (by decide) rfl (fun ls hl => ?_)
              refine lv_goto (tgt := 133) hx hb dX1_work_59 (by decide) ?_
              exact j133 H locs ls y56 g55 (zB_w by56 (by decide) (by decide)) hP hD hS (lv_sub hl [1, 2, 0, 3] rfl)
            refine lv_if_lt (tgt := 47) hx hb dX1_work_40 (by decide) (fun c40 => ?_) (fun c40 => ?_)
            · have bx40t_y17 : zB y17 (-5) (-1) := zB_ltu (zl c40) by22f_y17 (show zB 0 0 0 from ⟨by decide, by decide⟩) (by decide)
              refine lv_aload_n hx hb dX1_work_47 rfl (lv_at hl 3 rfl) ?_
              refine va_get (D := D) (ci := 1) (v := .ref (aFO 2)) (C := RX1) (T := TX1) (N := 6) hx hb hts iw_X1_work_X1 hown hK hP 0 rfl rfl 2 (by decide) (hts (.fieldLink RX1 16 "SoldHouse$Formula" "known" "[I") (List.mem_of_getElem? (i := 4) rfl)) (fun _ h9 => h9) rfl dX1_work_48 ?_
              refine lv_iconst (v := (-1)) hx hb dX1_work_51 (by decide) ?_
              refine lv_iload_n hx hb dX1_work_52 rfl (lv_at hl 0 rfl) ?_
              refine lv_isub hx hb dX1_work_53 ?_
              refine zi_top (a := 0) (b := 4) (zB_sub (show zB (-1) (-1) (-1) from ⟨by decide, by decide⟩) bx40t_y17 (by decide) (by decide) (by decide) (by decide)) (fun y53 by53 => ?_)
              refine va_iald hx hb hK hP 3 0 rfl rfl (zB_in by53 (by decide) (by decide)) dX1_work_54 ?_
              refine lv_topi (fun y54 _ => ?_)
              exact j55 H locs ls y54 hP hD hS (lv_sub hl [0, 1, 2, 3] rfl)
            · have by40f_y17 : zB y17 0 2147483647 := zB_lev (zg c40) (show zB 0 0 0 from ⟨by decide, by decide⟩) by22f_y17 (by decide)
              refine lv_iload_n hx hb dX1_work_43 rfl (lv_at hl 0 rfl) ?_
              refine lv_goto (tgt := 55) hx hb dX1_work_44 (by decide) ?_
              exact j55 H locs ls y17 hP hD hS (lv_sub hl [0, 1, 2, 3] rfl)
  refine lv_istore_n (lv' := [(2, .int 0), (1, .int 0), (0, .ref FO)]) hx hb dX1_work_3 rfl hl (by decide) rfl (fun ls hl => ?_)
  exact j4 401 H locs ls 0 0 FO_stack (zB_w (show zB 0 0 0 from ⟨by decide, by decide⟩) (by decide) (by decide)) (zB_w (show zB 0 0 0 from ⟨by decide, by decide⟩) (by decide) (by decide)) (zM_ui (show zB 0 0 0 from ⟨by decide, by decide⟩) (by decide)) hP hD hS (lv_sub hl [0, 1, 2] rfl)
set_option maxHeartbeats 4000000 in
set_option maxRecDepth 100000 in
theorem c_X7_lay (l : Launch) (D : va_G) (cI : ClassId) (cB : ClassId) (cL : ClassId) (cZ : ClassId) (cG : ClassId) (RO : Nat) (x0 : Int32) (FL : Nat) (aRO : Nat → Nat) (RO_lying : Int32) (RO_lie : Nat → Int32) (sz : Nat) (b_RO_lying : zB RO_lying 0 8) : Met l yX7_lay wsX7_lay ({ frames := 0, cells := 0, slots := 0, locals := 0 }) (xp D [(cI, .int), (cB, .byte), (cL, .long), (cZ, .boolean), (cG, .array .int)] [(RO, .inr (7, oX7 FL aRO RO_lying)), ((aRO 1), .inl (cI, 8, .inl RO_lie))] sz [] [.ref RO, .int x0]) (va_Qv (fun _ : Unit => True) (fun (_ : Unit) (t : State) => ∃ (nRO_lying : Int32), ∃ (nROlie : Nat → Int32), zB nRO_lying 1 8 ∧ xB D (va_A [(RO, .inr (7, oX7 FL aRO RO_lying)), ((aRO 1), .inl (cI, 8, .inl RO_lie))] sz) [(RO, .inr (7, oX7 FL aRO nRO_lying)), ((aRO 1), .inl (cI, 8, .inl nROlie))] t) (va_A [(RO, .inr (7, oX7 FL aRO RO_lying)), ((aRO 1), .inl (cI, 8, .inl RO_lie))] sz)) 0 0 (va_A [(RO, .inr (7, oX7 FL aRO RO_lying)), ((aRO 1), .inl (cI, 8, .inl RO_lie))] sz) := by
  refine Met.ofW (cc := cX7_lay) (maxL := 2) (ret := none) (by decide) rfl ?_
  intro p e s m args below meth c s₁ B hml hv
  obtain ⟨rfl, hsz, hP, hK, hD0, hNw⟩ := hv
  have hx := B.exec
  have hb := B.bytes
  have hr := B.returns
  have hts := atoms_spec (ws := wsX7_lay) B.pre
  have hown : s.vm.findClass RX7 = some m.cls := findClass_of_methodNamed B.named
  have hlocks := B.notSynchronized
  clear B
  subst hsz
  have hD := hD0.self (sz := s.heap.size)
  clear hD0 hNw
  generalize hAe : va_A [(RO, .inr (7, oX7 FL aRO RO_lying)), ((aRO 1), .inl (cI, 8, .inl RO_lie))] s.heap.size = A at hD ⊢
  have hA : ∀ q : Nat, s.heap.size ≤ q → A q := fun q h => by rw [← hAe]; exact Or.inr h
  have hS : va_S A s.heap s.heap [] := va_S.rf
  clear hAe
  obtain ⟨H, hH⟩ : ∃ H : Heap, H = s.heap := ⟨_, rfl⟩
  obtain ⟨locs, hlocs⟩ : ∃ L : List Loc, L = [] := ⟨_, rfl⟩
  replace hP : va_P D classes [(RO, .inr (7, oX7 FL aRO RO_lying)), ((aRO 1), .inl (cI, 8, .inl RO_lie))] H := by rw [hH]; exact hP
  replace hS : va_S A s.heap H locs := by rw [hH, hlocs]; exact hS
  rw [← hH, ← hlocs]
  clear hlocs hH
  have hl := lv_entry ([.ref RO, .int x0]) (n := 2) (Nat.le_of_ble_eq_true rfl)
  rw [lg_entry_eq]
  generalize (lg_sl ([.ref RO, .int x0]) ++ List.replicate (2 - (lg_sl ([.ref RO, .int x0])).length) Slot.unset).toArray = ls at hl ⊢
  replace hl : lv_has ls 2 [(0, .ref RO), (1, .int x0)] := hl
  refine lv_aload_n hx hb dX7_lay_0 rfl (lv_at hl 0 rfl) ?_
  refine va_get (D := D) (ci := 7) (v := .int RO_lying) (C := RX7) (T := TX7) (N := 5) hx hb hts iw_X7_lay_X7 hown hK hP 0 rfl rfl 2 (by decide) (hts (.fieldLink RX7 79 "SoldHouse$Routes" "lying" "I") (List.mem_of_getElem? (i := 1) rfl)) (fun _ h9 => h9) rfl dX7_lay_1 ?_
  refine lv_bipush (v := 8) hx hb dX7_lay_4 (by decide) ?_
  refine lv_icmp_ge (tgt := 29) hx hb dX7_lay_6 (by decide) (fun c6 => ?_) (fun c6 => ?_)
  · have by6t_RO_lying : zB RO_lying 8 8 := zB_lev (ze c6) (show zB 8 8 8 from ⟨by decide, by decide⟩) b_RO_lying (by decide)
    exact W.vret hx hb hr (fun t ht hW => ⟨⟨(), rfl, trivial, ⟨RO_lying, RO_lie, (zB_w by6t_RO_lying (by decide) (by decide)), by rw [ht]; exact hP, hD⟩⟩, hS.F ht⟩) hS.2.2 dX7_lay_29
  · have bx6f_RO_lying : zB RO_lying 0 7 := zB_ltu (zf c6) b_RO_lying (show zB 8 8 8 from ⟨by decide, by decide⟩) (by decide)
    refine lv_aload_n hx hb dX7_lay_9 rfl (lv_at hl 0 rfl) ?_
    refine va_get (D := D) (ci := 7) (v := .ref (aRO 1)) (C := RX7) (T := TX7) (N := 5) hx hb hts iw_X7_lay_X7 hown hK hP 0 rfl rfl 1 (by decide) (hts (.fieldLink RX7 9 "SoldHouse$Routes" "lie" "[I") (List.mem_of_getElem? (i := 2) rfl)) (fun _ h9 => h9) rfl dX7_lay_10 ?_
    refine lv_aload_n hx hb dX7_lay_13 rfl (lv_at hl 0 rfl) ?_
    refine va_get (D := D) (ci := 7) (v := .int RO_lying) (C := RX7) (T := TX7) (N := 5) hx hb hts iw_X7_lay_X7 hown hK hP 0 rfl rfl 2 (by decide) (hts (.fieldLink RX7 79 "SoldHouse$Routes" "lying" "I") (List.mem_of_getElem? (i := 1) rfl)) (fun _ h9 => h9) rfl dX7_lay_14 ?_
    refine lv_iload_n hx hb dX7_lay_17 rfl (lv_at hl 1 rfl) ?_
    refine zi_iast hx hb hK hP hD hS 1 0 rfl rfl (zB_in bx6f_RO_lying (by decide) (by decide)) dX7_lay_18 (fun H locs g18 eg18 hP hD hS => ?_)
    replace hP : va_P D classes [(RO, .inr (7, oX7 FL aRO RO_lying)), ((aRO 1), .inl (cI, 8, .inl g18))] H := hP
    replace hD : va_D A [(RO, .inr (7, oX7 FL aRO RO_lying)), ((aRO 1), .inl (cI, 8, .inl g18))] := hD
    clear eg18
    refine lv_aload_n hx hb dX7_lay_19 rfl (lv_at hl 0 rfl) ?_
    refine lv_dup hx hb dX7_lay_20 rfl ?_
    refine va_get (D := D) (ci := 7) (v := .int RO_lying) (C := RX7) (T := TX7) (N := 5) hx hb hts iw_X7_lay_X7 hown hK hP 0 rfl rfl 2 (by decide) (hts (.fieldLink RX7 79 "SoldHouse$Routes" "lying" "I") (List.mem_of_getElem? (i := 1) rfl)) (fun _ h9 => h9) rfl dX7_lay_21 ?_
    refine lv_iconst (v := 1) hx hb dX7_lay_24 (by decide) ?_
    refine lv_iadd hx hb dX7_lay_25 ?_
    refine zi_top2 (P := fun y => y.toInt = RO_lying.toInt + 1) (a := 1) (b := 8) (zB_add bx6f_RO_lying (show zB 1 1 1 from ⟨by decide, by decide⟩) (by decide) (by decide) (by decide) (by decide)) (zR_addc bx6f_RO_lying (by decide) (by decide) (by decide)) (fun y25 by25 ry25 => ?_)
    refine va_put (D := D) (ci := 7) (v := .int y25) (ty := tyX7 2) (C := RX7) (T := TX7) (N := 5) hx hb hts iw_X7_lay_X7 tyX7 tyX7_ok nmX7 hown hK hP hD hS 0 rfl rfl 2 (by decide) (hts (.fieldLink RX7 79 "SoldHouse$Routes" "lying" "I") (List.mem_of_getElem? (i := 1) rfl)) (fun _ h9 => h9) rfl (by decide +kernel) rfl rfl (Nat.le_of_ble_eq_true rfl) dX7_lay_26 (fun H locs hP hD hS => ?_)
    replace hP : va_P D classes [(RO, .inr (7, oX7 FL aRO y25)), ((aRO 1), .inl (cI, 8, .inl g18))] H := hP
    replace hD : va_D A [(RO, .inr (7, oX7 FL aRO y25)), ((aRO 1), .inl (cI, 8, .inl g18))] := hD
    exact W.vret hx hb hr (fun t ht hW => ⟨⟨(), rfl, trivial, ⟨y25, g18, by25, by rw [ht]; exact hP, hD⟩⟩, hS.F ht⟩) hS.2.2 dX7_lay_29
set_option maxHeartbeats 4000000 in
set_option maxRecDepth 100000 in
theorem c_X7_nextOnWay (l : Launch) (D : va_G) (cI : ClassId) (cB : ClassId) (cL : ClassId) (cZ : ClassId) (cG : ClassId) (RO : Nat) (x0 : Int32) (x1 : Int32) (x2 : Int32) (FL : Nat) (aRO : Nat → Nat) (RO_lying : Int32) (PL : Nat) (aFL : Nat → Nat) (FL_parting : Int32) (PL_rooms : Int32) (aPL : Nat → Nat) (PL_doors : Int32) (PL_things : Int32) (FO : Nat) (PL_draw : Int32) (PL_drawTold : Int32) (FL_next : Nat → Int32) (FL_far : Nat → Int32) (b_x0 : zB x0 0 7) (b_x1 : zB x1 0 7) (b_RO_lying : zB RO_lying 0 8) (b_PL_rooms : zB PL_rooms 0 8) (b_PL_doors : zB PL_doors 0 12) (b_PL_things : zB PL_things 0 6) (s_FL_far_0 : zA FL_far 0 64 (-1) 7) : Met l yX7_nextOnWay wsX7_nextOnWay ({ frames := 1, cells := 0, slots := 0, locals := 22 }) (xr D [(cI, .int), (cB, .byte), (cL, .long), (cZ, .boolean), (cG, .array .int)] [(RO, .inr (7, oX7 FL aRO RO_lying)), (FL, .inr (0, oX0 PL aFL FL_parting)), (PL, .inr (5, oX5 FO aPL PL_rooms PL_doors PL_things PL_draw PL_drawTold)), ((aFL 1), .inl (cI, 8, .inl FL_next)), ((aFL 2), .inl (cI, 64, .inl FL_far))] [.ref RO, .int x0, .int x1, .int x2]) (vp_Si (fun r => zB r 0 7)) 0 0 (fun _ => False) := by
  refine Met.ofW (cc := cX7_nextOnWay) (maxL := 5) (ret := (some .int)) (by decide) rfl ?_
  intro p e s m args below meth c s₁ B hml hv
  obtain ⟨rfl, hP, hK⟩ := hv
  have hx := B.exec
  have hb := B.bytes
  have hr := B.returns
  have hts := atoms_spec (ws := wsX7_nextOnWay) B.pre
  have hown : s.vm.findClass RX7 = some m.cls := findClass_of_methodNamed B.named
  have hlocks := B.notSynchronized
  clear B
  have hl := lv_entry ([.ref RO, .int x0, .int x1, .int x2]) (n := 5) (Nat.le_of_ble_eq_true rfl)
  rw [lg_entry_eq]
  generalize (lg_sl ([.ref RO, .int x0, .int x1, .int x2]) ++ List.replicate (5 - (lg_sl ([.ref RO, .int x0, .int x1, .int x2])).length) Slot.unset).toArray = ls at hl ⊢
  replace hl : lv_has ls 5 [(0, .ref RO), (1, .int x0), (2, .int x1), (3, .int x2)] := hl
  refine zz_abs (R := ({ frames := 1, cells := 0, slots := 0, locals := 22 } : Room)) (fun Q up => ?_)
  refine lv_iconst (v := 0) hx hb dX7_nextOnWay_0 (by decide) ?_
  have j3 : ∀ (n3 : Nat) (ls : Array Slot) (v3_4 : Int32), zB v3_4 0 8 → zA FL_far 0 64 (-1) 7 → (8 + 1 - v3_4.toInt) ≤ (n3 : Int) → lv_has ls 5 [(4, .int v3_4), (0, .ref RO), (1, .int x0), (2, .int x1), (3, .int x2)] → W p l e ({ frames := 1, cells := 0, slots := 0, locals := 22 } : Room) s m ([.ref RO, .int x0, .int x1, .int x2] : List Value).toArray below meth c s.heap [] 0 0 Q (F0 m 3 ls []) := by
    intro n3
    induction n3 with
    | zero => intro ls v3_4 bv3_4_k3 sFL_far_0_k3 hm3 hl; exact zM_u0 bv3_4_k3 hm3
    | succ n3 ih3 =>
      intro ls v3_4 bv3_4_k3 sFL_far_0_k3 hm3 hl
      refine lv_iload hx hb dX7_nextOnWay_3 (lv_at hl 0 rfl) ?_
      refine lv_aload_n hx hb dX7_nextOnWay_5 rfl (lv_at hl 1 rfl) ?_
      refine va_get (D := D) (ci := 7) (v := .ref FL) (C := RX7) (T := TX7) (N := 5) hx hb hts iw_X7_nextOnWay_X7 hown hK hP 0 rfl rfl 0 (by decide) (hts (.fieldLink RX7 21 "SoldHouse$Routes" "floor" "LSoldHouse$Floor;") (List.mem_of_getElem? (i := 1) rfl)) (fun _ h9 => h9) rfl dX7_nextOnWay_6 ?_
      refine va_get (D := D) (ci := 0) (v := .ref PL) (C := RX0) (T := TX0) (N := 5) hx hb hts iw_X7_nextOnWay_X0 hown hK hP 1 rfl rfl 0 (by decide) (hts (.fieldLink RX7 52 "SoldHouse$Floor" "plan" "LSoldHouse$Plan;") (List.mem_of_getElem? (i := 2) rfl)) (fun _ h9 => h9) rfl dX7_nextOnWay_9 ?_
      refine va_get (D := D) (ci := 5) (v := .int PL_rooms) (C := RX5) (T := TX5) (N := 16) hx hb hts iw_X7_nextOnWay_X5 hown hK hP 2 rfl rfl 0 (by decide) (hts (.fieldLink RX7 56 "SoldHouse$Plan" "rooms" "I") (List.mem_of_getElem? (i := 3) rfl)) (fun _ h9 => h9) rfl dX7_nextOnWay_12 ?_
      refine lv_icmp_ge (tgt := 59) hx hb dX7_nextOnWay_15 (by decide) (fun c15 => ?_) (fun c15 => ?_)
      · refine lv_iload_n hx hb dX7_nextOnWay_59 rfl (lv_at hl 2 rfl) ?_
        exact up _ _ _ (W.iret (v := x0) hx hb hr (fun t ht hW => ⟨x0, rfl, b_x0, ht⟩) (fun q hq => by cases hq) dX7_nextOnWay_60)
      · have bx15f_v3_4 : zB v3_4 0 7 := zB_ltu (zf c15) bv3_4_k3 b_PL_rooms (by decide)
        have by15f_PL_rooms : zB PL_rooms 1 8 := zB_ltv (zf c15) bx15f_v3_4 b_PL_rooms (by decide)
        refine lv_aload_n hx hb dX7_nextOnWay_18 rfl (lv_at hl 1 rfl) ?_
        refine va_get (D := D) (ci := 7) (v := .ref FL) (C := RX7) (T := TX7) (N := 5) hx hb hts iw_X7_nextOnWay_X7 hown hK hP 0 rfl rfl 0 (by decide) (hts (.fieldLink RX7 21 "SoldHouse$Routes" "floor" "LSoldHouse$Floor;") (List.mem_of_getElem? (i := 1) rfl)) (fun _ h9 => h9) rfl dX7_nextOnWay_19 ?_
        refine va_get (D := D) (ci := 0) (v := .ref (aFL 1)) (C := RX0) (T := TX0) (N := 5) hx hb hts iw_X7_nextOnWay_X0 hown hK hP 1 rfl rfl 1 (by decide) (hts (.fieldLink RX7 82 "SoldHouse$Floor" "next" "[I") (List.mem_of_getElem? (i := 4) rfl)) (fun _ h9 => h9) rfl dX7_nextOnWay_22 ?_
        refine lv_iload_n hx hb dX7_nextOnWay_25 rfl (lv_at hl 2 rfl) ?_
        refine va_iald hx hb hK hP 3 0 rfl rfl (zB_in b_x0 (by decide) (by decide)) dX7_nextOnWay_26 ?_
        refine lv_topi (fun y26 _ => ?_)
        refine lv_iload hx hb dX7_nextOnWay_27 (lv_at hl 0 rfl) ?_
        refine lv_ishr hx hb dX7_nextOnWay_29 ?_
        refine lv_topi (fun y29 _ => ?_)
        refine lv_iconst (v := 1) hx hb dX7_nextOnWay_30 (by decide) ?_
        refine lv_iand hx hb dX7_nextOnWay_31 ?_
        refine zi_top (a := 0) (b := 1) (zB_andr (show zB 1 1 1 from ⟨by decide, by decide⟩) (by decide)) (fun y31 by31 => ?_)
        refine lv_iconst (v := 1) hx hb dX7_nextOnWay_32 (by decide) ?_
        have j53 : ∀ (ls : Array Slot), zA FL_far 0 64 (-1) 7 → lv_has ls 5 [(4, .int v3_4), (0, .ref RO), (1, .int x0), (2, .int x1), (3, .int x2)] → W p l e ({ frames := 1, cells := 0, slots := 0, locals := 22 } : Room) s m ([.ref RO, .int x0, .int x1, .int x2] : List Value).toArray below meth c s.heap [] 0 0 Q (F0 m 53 ls []) := by
          intro ls sFL_far_0_k53 hl
          obtain ⟨y53, by53, ry53, ey53⟩ := zi_inc (x := v3_4) (k := 1) (a := 1) (b := 8) bx15f_v3_4 (by decide) (by decide) (by decide) (by decide) (by decide)
          refine lv_iinc (v := y53) (lv' := [(4, .int y53), (0, .ref RO), (1, .int x0), (2, .int x1), (3, .int x2)]) hx hb dX7_nextOnWay_53 hl (k := 0) rfl ey53 (by decide) rfl (fun ls hl => ?_)
          refine lv_goto (tgt := 3) hx hb dX7_nextOnWay_56 (by decide) ?_
          exact ih3 ls y53 (zB_w by53 (by decide) (by decide)) sFL_far_0_k53 (zM_us (k := 1) hm3 ry53 (by decide)) (lv_sub hl [0, 1, 2, 3, 4] rfl)
        refine lv_icmp_ne (tgt := 53) hx hb dX7_nextOnWay_33 (by decide) (fun c33 => ?_) (fun c33 => ?_)
        · have bn33t_y31 : zB y31 0 0 := zB_neH c33 by31 (show zB 1 1 1 from ⟨by decide, by decide⟩) (by decide)
          exact j53 ls sFL_far_0_k3 (lv_sub hl [0, 1, 2, 3, 4] rfl)
        · have be33f_y31 : zB y31 1 1 := zB_eq c33 by31 (show zB 1 1 1 from ⟨by decide, by decide⟩) (by decide) (by decide)
          refine lv_aload_n hx hb dX7_nextOnWay_36 rfl (lv_at hl 1 rfl) ?_
          refine va_get (D := D) (ci := 7) (v := .ref FL) (C := RX7) (T := TX7) (N := 5) hx hb hts iw_X7_nextOnWay_X7 hown hK hP 0 rfl rfl 0 (by decide) (hts (.fieldLink RX7 21 "SoldHouse$Routes" "floor" "LSoldHouse$Floor;") (List.mem_of_getElem? (i := 1) rfl)) (fun _ h9 => h9) rfl dX7_nextOnWay_37 ?_
          refine lv_iload hx hb dX7_nextOnWay_40 (lv_at hl 0 rfl) ?_
          refine lv_iload_n hx hb dX7_nextOnWay_42 rfl (lv_at hl 3 rfl) ?_
          have hPc := hP.sub (ws' := [(FL, .inr (0, oX0 PL aFL FL_parting)), ((aFL 2), .inl (cI, 64, .inl FL_far))]) [1, 4] rfl
          refine vp_callSi (va_runV (As := [.int v3_4, .int x1]) (rest := []) ⟨hx, hb, hml, hown, hts⟩ (c_X0_farOf l D cI cB cL cZ cG FL v3_4 x1 PL aFL FL_parting FL_far bx15f_v3_4 b_x1 sFL_far_0_k3) (cwV 2 hts gX7_nextOnWay_X0_farOf rfl rfl rfl (by decide +kernel) ⟨Nat.le_of_ble_eq_true rfl, Nat.le_of_ble_eq_true rfl⟩) ⟨xr_blind, va_recv hK hP (ci := 0) (q0 := 1) rfl rfl, fun U hU hW => xr_mk hU hW hPc hK⟩ rfl rfl hl.1 rfl (lv_room (Nat.le_of_ble_eq_true rfl)) dX7_nextOnWay_43 ⟨Nat.le_of_ble_eq_true rfl, Nat.le_of_ble_eq_true rfl⟩).run (fun r43 hr43 => ?_)
          clear hPc
          refine lv_iload_n hx hb dX7_nextOnWay_46 rfl (lv_at hl 4 rfl) ?_
          refine lv_icmp_ne (tgt := 53) hx hb dX7_nextOnWay_47 (by decide) (fun c47 => ?_) (fun c47 => ?_)
          · exact j53 ls sFL_far_0_k3 (lv_sub hl [0, 1, 2, 3, 4] rfl)
          · have be47f_x2 : zB x2 (-1) 7 := zB_eq (Eq.symm c47) (zB_top x2) hr43 (by decide) (by decide)
            refine lv_iload hx hb dX7_nextOnWay_50 (lv_at hl 0 rfl) ?_
            exact up _ _ _ (W.iret (v := v3_4) hx hb hr (fun t ht hW => ⟨v3_4, rfl, bx15f_v3_4, ht⟩) (fun q hq => by cases hq) dX7_nextOnWay_52)
  refine lv_istore (lv' := [(4, .int 0), (0, .ref RO), (1, .int x0), (2, .int x1), (3, .int x2)]) hx hb dX7_nextOnWay_1 hl (by decide) rfl (fun ls hl => ?_)
  exact j3 9 ls 0 (zB_w (show zB 0 0 0 from ⟨by decide, by decide⟩) (by decide) (by decide)) s_FL_far_0 (zM_ui (show zB 0 0 0 from ⟨by decide, by decide⟩) (by decide)) (lv_sub hl [0, 1, 2, 3, 4] rfl)
set_option maxHeartbeats 4000000 in
set_option maxRecDepth 100000 in
theorem c_X7_layWay (l : Launch) (D : va_G) (cI : ClassId) (cB : ClassId) (cL : ClassId) (cZ : ClassId) (cG : ClassId) (RO : Nat) (x0 : Int32) (x1 : Int32) (FL : Nat) (aRO : Nat → Nat) (RO_lying : Int32) (PL : Nat) (aFL : Nat → Nat) (FL_parting : Int32) (FL_far : Nat → Int32) (RO_lie : Nat → Int32) (PL_rooms : Int32) (aPL : Nat → Nat) (PL_doors : Int32) (PL_things : Int32) (FO : Nat) (PL_draw : Int32) (PL_drawTold : Int32) (FL_next : Nat → Int32) (sz : Nat) (b_x0 : zB x0 0 7) (b_x1 : zB x1 0 7) (b_RO_lying : zB RO_lying 0 8) (b_PL_rooms : zB PL_rooms 0 8) (b_PL_doors : zB PL_doors 0 12) (b_PL_things : zB PL_things 0 6) (s_FL_far_0 : zA FL_far 0 64 (-1) 7) : Met l yX7_layWay wsX7_layWay ({ frames := 2, cells := 0, slots := 0, locals := 46 }) (xp D [(cI, .int), (cB, .byte), (cL, .long), (cZ, .boolean), (cG, .array .int)] [(RO, .inr (7, oX7 FL aRO RO_lying)), (FL, .inr (0, oX0 PL aFL FL_parting)), ((aFL 2), .inl (cI, 64, .inl FL_far)), ((aRO 1), .inl (cI, 8, .inl RO_lie)), (PL, .inr (5, oX5 FO aPL PL_rooms PL_doors PL_things PL_draw PL_drawTold)), ((aFL 1), .inl (cI, 8, .inl FL_next))] sz [] [.ref RO, .int x0, .int x1]) (va_Qi (fun (r : Int32) (_ : Unit) => zB r (-1) 7) (fun (_ : Unit) (t : State) => ∃ (nRO_lying : Int32), ∃ (nROlie : Nat → Int32), zB nRO_lying 0 8 ∧ xB D (va_A [(RO, .inr (7, oX7 FL aRO RO_lying)), (FL, .inr (0, oX0 PL aFL FL_parting)), ((aFL 2), .inl (cI, 64, .inl FL_far)), ((aRO 1), .inl (cI, 8, .inl RO_lie)), (PL, .inr (5, oX5 FO aPL PL_rooms PL_doors PL_things PL_draw PL_drawTold)), ((aFL 1), .inl (cI, 8, .inl FL_next))] sz) [(RO, .inr (7, oX7 FL aRO nRO_lying)), (FL, .inr (0, oX0 PL aFL FL_parting)), ((aFL 2), .inl (cI, 64, .inl FL_far)), ((aRO 1), .inl (cI, 8, .inl nROlie)), (PL, .inr (5, oX5 FO aPL PL_rooms PL_doors PL_things PL_draw PL_drawTold)), ((aFL 1), .inl (cI, 8, .inl FL_next))] t) (va_A [(RO, .inr (7, oX7 FL aRO RO_lying)), (FL, .inr (0, oX0 PL aFL FL_parting)), ((aFL 2), .inl (cI, 64, .inl FL_far)), ((aRO 1), .inl (cI, 8, .inl RO_lie)), (PL, .inr (5, oX5 FO aPL PL_rooms PL_doors PL_things PL_draw PL_drawTold)), ((aFL 1), .inl (cI, 8, .inl FL_next))] sz)) 0 0 (va_A [(RO, .inr (7, oX7 FL aRO RO_lying)), (FL, .inr (0, oX0 PL aFL FL_parting)), ((aFL 2), .inl (cI, 64, .inl FL_far)), ((aRO 1), .inl (cI, 8, .inl RO_lie)), (PL, .inr (5, oX5 FO aPL PL_rooms PL_doors PL_things PL_draw PL_drawTold)), ((aFL 1), .inl (cI, 8, .inl FL_next))] sz) := by
  refine Met.ofW (cc := cX7_layWay) (maxL := 6) (ret := (some .int)) (by decide) rfl ?_
  intro p e s m args below meth c s₁ B hml hv
  obtain ⟨rfl, hsz, hP, hK, hD0, hNw⟩ := hv
  have hx := B.exec
  have hb := B.bytes
  have hr := B.returns
  have hts := atoms_spec (ws := wsX7_layWay) B.pre
  have hown : s.vm.findClass RX7 = some m.cls := findClass_of_methodNamed B.named
  have hlocks := B.notSynchronized
  clear B
  subst hsz
  have hD := hD0.self (sz := s.heap.size)
  clear hD0 hNw
  generalize hAe : va_A [(RO, .inr (7, oX7 FL aRO RO_lying)), (FL, .inr (0, oX0 PL aFL FL_parting)), ((aFL 2), .inl (cI, 64, .inl FL_far)), ((aRO 1), .inl (cI, 8, .inl RO_lie)), (PL, .inr (5, oX5 FO aPL PL_rooms PL_doors PL_things PL_draw PL_drawTold)), ((aFL 1), .inl (cI, 8, .inl FL_next))] s.heap.size = A at hD ⊢
  have hA : ∀ q : Nat, s.heap.size ≤ q → A q := fun q h => by rw [← hAe]; exact Or.inr h
  have hS : va_S A s.heap s.heap [] := va_S.rf
  clear hAe
  obtain ⟨H, hH⟩ : ∃ H : Heap, H = s.heap := ⟨_, rfl⟩
  obtain ⟨locs, hlocs⟩ : ∃ L : List Loc, L = [] := ⟨_, rfl⟩
  replace hP : va_P D classes [(RO, .inr (7, oX7 FL aRO RO_lying)), (FL, .inr (0, oX0 PL aFL FL_parting)), ((aFL 2), .inl (cI, 64, .inl FL_far)), ((aRO 1), .inl (cI, 8, .inl RO_lie)), (PL, .inr (5, oX5 FO aPL PL_rooms PL_doors PL_things PL_draw PL_drawTold)), ((aFL 1), .inl (cI, 8, .inl FL_next))] H := by rw [hH]; exact hP
  replace hS : va_S A s.heap H locs := by rw [hH, hlocs]; exact hS
  rw [← hH, ← hlocs]
  clear hlocs hH
  have hl := lv_entry ([.ref RO, .int x0, .int x1]) (n := 6) (Nat.le_of_ble_eq_true rfl)
  rw [lg_entry_eq]
  generalize (lg_sl ([.ref RO, .int x0, .int x1]) ++ List.replicate (6 - (lg_sl ([.ref RO, .int x0, .int x1])).length) Slot.unset).toArray = ls at hl ⊢
  replace hl : lv_has ls 6 [(0, .ref RO), (1, .int x0), (2, .int x1)] := hl
  refine zz_abs (R := ({ frames := 2, cells := 0, slots := 0, locals := 46 } : Room)) (fun Q up => ?_)
  refine lv_aload_n hx hb dX7_layWay_0 rfl (lv_at hl 0 rfl) ?_
  refine va_get (D := D) (ci := 7) (v := .ref FL) (C := RX7) (T := TX7) (N := 5) hx hb hts iw_X7_layWay_X7 hown hK hP 0 rfl rfl 0 (by decide) (hts (.fieldLink RX7 21 "SoldHouse$Routes" "floor" "LSoldHouse$Floor;") (List.mem_of_getElem? (i := 1) rfl)) (fun _ h9 => h9) rfl dX7_layWay_1 ?_
  refine lv_iload_n hx hb dX7_layWay_4 rfl (lv_at hl 1 rfl) ?_
  refine lv_iload_n hx hb dX7_layWay_5 rfl (lv_at hl 2 rfl) ?_
  have hPc := hP.sub (ws' := [(FL, .inr (0, oX0 PL aFL FL_parting)), ((aFL 2), .inl (cI, 64, .inl FL_far))]) [1, 2] rfl
  refine vp_callSi (va_runV (As := [.int x0, .int x1]) (rest := []) ⟨hx, hb, hml, hown, hts⟩ (c_X0_farOf l D cI cB cL cZ cG FL x0 x1 PL aFL FL_parting FL_far b_x0 b_x1 s_FL_far_0) (cwV 2 hts gX7_layWay_X0_farOf rfl rfl rfl (by decide +kernel) ⟨Nat.le_of_ble_eq_true rfl, Nat.le_of_ble_eq_true rfl⟩) ⟨xr_blind, va_recv hK hP (ci := 0) (q0 := 1) rfl rfl, fun U hU hW => xr_mk hU hW hPc hK⟩ rfl rfl hl.1 rfl (lv_room (Nat.le_of_ble_eq_true rfl)) dX7_layWay_6 ⟨Nat.le_of_ble_eq_true rfl, Nat.le_of_ble_eq_true rfl⟩).run (fun r6 hr6 => ?_)
  clear hPc
  refine lv_istore_n (lv' := [(3, .int r6), (0, .ref RO), (1, .int x0), (2, .int x1)]) hx hb dX7_layWay_9 rfl hl (by decide) rfl (fun ls hl => ?_)
  refine lv_iload_n hx hb dX7_layWay_10 rfl (lv_at hl 0 rfl) ?_
  refine lv_iconst (v := (-1)) hx hb dX7_layWay_11 (by decide) ?_
  refine lv_icmp_ne (tgt := 17) hx hb dX7_layWay_12 (by decide) (fun c12 => ?_) (fun c12 => ?_)
  · have bn12t_r6 : zB r6 0 7 := zB_neL c12 hr6 (show zB (-1) (-1) (-1) from ⟨by decide, by decide⟩) (by decide)
    refine lv_aload_n hx hb dX7_layWay_17 rfl (lv_at hl 1 rfl) ?_
    refine lv_iload_n hx hb dX7_layWay_18 rfl (lv_at hl 2 rfl) ?_
    have hPc := hP.sub (ws' := [(RO, .inr (7, oX7 FL aRO RO_lying)), ((aRO 1), .inl (cI, 8, .inl RO_lie))]) [0, 3] rfl
    have hDc := hD.sub (ws' := [(RO, .inr (7, oX7 FL aRO RO_lying)), ((aRO 1), .inl (cI, 8, .inl RO_lie))]) [0, 3] (by decide) rfl
    have hFc := va_free (wc := [(RO, .inr (7, oX7 FL aRO RO_lying)), ((aRO 1), .inl (cI, 8, .inl RO_lie))]) hD hS hA [0, 3] rfl
    refine va_callv (va_runV (As := [.int x0]) (rest := []) ⟨hx, hb, hml, hown, hts⟩ (c_X7_lay l D cI cB cL cZ cG RO x0 FL aRO RO_lying RO_lie H.size b_RO_lying) (cwV 1 hts gX7_layWay_X7_lay rfl rfl rfl (by decide +kernel) ⟨Nat.le_of_ble_eq_true rfl, Nat.le_of_ble_eq_true rfl⟩) ⟨xp_blind, va_recv hK hP (ci := 7) (q0 := 0) rfl rfl, fun U hU hW => xp_mk hU hW hPc hK hDc xNw_nil⟩ rfl rfl hl.1 rfl (lv_room (Nat.le_of_ble_eq_true rfl)) dX7_layWay_19 ⟨Nat.le_of_ble_eq_true rfl, Nat.le_of_ble_eq_true rfl⟩) hS (fun q _ h => hFc q h) hFc (fun u9 t9 H1 locs ht9 hvm9 hr19 hB9 hz9 hk9 hS => ?_)
    obtain ⟨o19_nRO_lying, o19_nROlie, bo19_nRO_lying, hP1, hD1⟩ := hB9
    rw [ht9] at hP1
    obtain ⟨hP, hD⟩ := va_join (wr := [(FL, .inr (0, oX0 PL aFL FL_parting)), ((aFL 2), .inl (cI, 64, .inl FL_far)), (PL, .inr (5, oX5 FO aPL PL_rooms PL_doors PL_things PL_draw PL_drawTold)), ((aFL 1), .inl (cI, 8, .inl FL_next))]) (w1 := [(RO, .inr (7, oX7 FL aRO o19_nRO_lying)), ((aRO 1), .inl (cI, 8, .inl o19_nROlie))]) hP hD [0, 3] [1, 2, 4, 5] rfl rfl (by decide) (by decide) hk9 hFc hP1 hD1
    clear hz9 hPc hDc hP1 hD1 hk9 hFc ht9 hvm9 u9 t9
    generalize H1 = H at hP hS ⊢
    replace hP : va_P D classes [(RO, .inr (7, oX7 FL aRO o19_nRO_lying)), (FL, .inr (0, oX0 PL aFL FL_parting)), ((aFL 2), .inl (cI, 64, .inl FL_far)), ((aRO 1), .inl (cI, 8, .inl o19_nROlie)), (PL, .inr (5, oX5 FO aPL PL_rooms PL_doors PL_things PL_draw PL_drawTold)), ((aFL 1), .inl (cI, 8, .inl FL_next))] H := hP.sub [4, 0, 1, 5, 2, 3] rfl
    replace hD : va_D A [(RO, .inr (7, oX7 FL aRO o19_nRO_lying)), (FL, .inr (0, oX0 PL aFL FL_parting)), ((aFL 2), .inl (cI, 64, .inl FL_far)), ((aRO 1), .inl (cI, 8, .inl o19_nROlie)), (PL, .inr (5, oX5 FO aPL PL_rooms PL_doors PL_things PL_draw PL_drawTold)), ((aFL 1), .inl (cI, 8, .inl FL_next))] := hD.sub [4, 0, 1, 5, 2, 3] (by decide) rfl
    refine lv_iload_n hx hb dX7_layWay_22 rfl (lv_at hl 2 rfl) ?_
    refine lv_istore (lv' := [(4, .int x0), (3, .int r6), (0, .ref RO), (1, .int x0), (2, .int x1)]) hx hb dX7_layWay_23 hl (by decide) rfl (fun ls hl => ?_)
    refine lv_iload_n hx hb dX7_layWay_25 rfl (lv_at hl 1 rfl) ?_
    refine lv_iconst (v := 1) hx hb dX7_layWay_26 (by decide) ?_
    refine lv_isub hx hb dX7_layWay_27 ?_
    refine zi_top2 (P := fun y => y.toInt = r6.toInt + (-1)) (a := (-1)) (b := 6) (zB_sub bn12t_r6 (show zB 1 1 1 from ⟨by decide, by decide⟩) (by decide) (by decide) (by decide) (by decide)) (zR_subc bn12t_r6 (by decide) (by decide) (by decide)) (fun y27 by27 ry27 => ?_)
    have j30 : ∀ (n30 : Nat) (H : Heap) (locs : List Loc) (ls : Array Slot) (v30_5 : Int32) (v30_4 : Int32) (w30_RO_2 : Int32) (g30_aRO1 : Nat → Int32), zB v30_5 (-1) 6 → zB v30_4 0 7 → zB w30_RO_2 1 8 → zA FL_far 0 64 (-1) 7 → (v30_5.toInt - (-1) + 1) ≤ (n30 : Int) → va_P D classes [(RO, .inr (7, oX7 FL aRO w30_RO_2)), (FL, .inr (0, oX0 PL aFL FL_parting)), ((aFL 2), .inl (cI, 64, .inl FL_far)), ((aRO 1), .inl (cI, 8, .inl g30_aRO1)), (PL, .inr (5, oX5 FO aPL PL_rooms PL_doors PL_things PL_draw PL_drawTold)), ((aFL 1), .inl (cI, 8, .inl FL_next))] H → va_D A [(RO, .inr (7, oX7 FL aRO w30_RO_2)), (FL, .inr (0, oX0 PL aFL FL_parting)), ((aFL 2), .inl (cI, 64, .inl FL_far)), ((aRO 1), .inl (cI, 8, .inl g30_aRO1)), (PL, .inr (5, oX5 FO aPL PL_rooms PL_doors PL_things PL_draw PL_drawTold)), ((aFL 1), .inl (cI, 8, .inl FL_next))] → va_S A s.heap H locs → lv_has ls 6 [(5, .int v30_5), (4, .int v30_4), (3, .int r6), (0, .ref RO), (1, .int x0), (2, .int x1)] → W p l e ({ frames := 2, cells := 0, slots := 0, locals := 46 } : Room) s m ([.ref RO, .int x0, .int x1] : List Value).toArray below meth c H locs 0 0 Q (F0 m 30 ls []) := by
      intro n30
      induction n30 with
      | zero => intro H locs ls v30_5 v30_4 w30_RO_2 g30_aRO1 bv30_5_k30 bv30_4_k30 bw30_RO_2_k30 sFL_far_0_k30 hm30 hP hD hS hl; exact zM_d0 bv30_5_k30 hm30
      | succ n30 ih30 =>
        intro H locs ls v30_5 v30_4 w30_RO_2 g30_aRO1 bv30_5_k30 bv30_4_k30 bw30_RO_2_k30 sFL_far_0_k30 hm30 hP hD hS hl
        refine lv_iload hx hb dX7_layWay_30 (lv_at hl 0 rfl) ?_
        refine lv_if_lt (tgt := 58) hx hb dX7_layWay_32 (by decide) (fun c32 => ?_) (fun c32 => ?_)
        · have bx32t_v30_5 : zB v30_5 (-1) (-1) := zB_ltu (zl c32) bv30_5_k30 (show zB 0 0 0 from ⟨by decide, by decide⟩) (by decide)
          refine lv_iload_n hx hb dX7_layWay_58 rfl (lv_at hl 2 rfl) ?_
          exact up _ _ _ (W.iret (v := r6) hx hb hr (fun t ht hW => ⟨⟨r6, (), rfl, (zB_w bn12t_r6 (by decide) (by decide)), ⟨w30_RO_2, g30_aRO1, (zB_w bw30_RO_2_k30 (by decide) (by decide)), by rw [ht]; exact hP, hD⟩⟩, hS.F ht⟩) hS.2.2 dX7_layWay_59)
        · have by32f_v30_5 : zB v30_5 0 6 := zB_lev (zg c32) (show zB 0 0 0 from ⟨by decide, by decide⟩) bv30_5_k30 (by decide)
          refine lv_aload_n hx hb dX7_layWay_35 rfl (lv_at hl 3 rfl) ?_
          refine lv_iload hx hb dX7_layWay_36 (lv_at hl 1 rfl) ?_
          refine lv_iload_n hx hb dX7_layWay_38 rfl (lv_at hl 5 rfl) ?_
          refine lv_iload hx hb dX7_layWay_39 (lv_at hl 0 rfl) ?_
          have hPc := hP.sub (ws' := [(RO, .inr (7, oX7 FL aRO w30_RO_2)), (FL, .inr (0, oX0 PL aFL FL_parting)), (PL, .inr (5, oX5 FO aPL PL_rooms PL_doors PL_things PL_draw PL_drawTold)), ((aFL 1), .inl (cI, 8, .inl FL_next)), ((aFL 2), .inl (cI, 64, .inl FL_far))]) [0, 1, 4, 5, 2] rfl
          refine vp_callSi (va_runV (As := [.int v30_4, .int x1, .int v30_5]) (rest := []) ⟨hx, hb, hml, hown, hts⟩ (c_X7_nextOnWay l D cI cB cL cZ cG RO v30_4 x1 v30_5 FL aRO w30_RO_2 PL aFL FL_parting PL_rooms aPL PL_doors PL_things FO PL_draw PL_drawTold FL_next FL_far bv30_4_k30 b_x1 (zB_w bw30_RO_2_k30 (by decide) (by decide)) b_PL_rooms b_PL_doors b_PL_things sFL_far_0_k30) (cwV 3 hts gX7_layWay_X7_nextOnWay rfl rfl rfl (by decide +kernel) ⟨Nat.le_of_ble_eq_true rfl, Nat.le_of_ble_eq_true rfl⟩) ⟨xr_blind, va_recv hK hP (ci := 7) (q0 := 0) rfl rfl, fun U hU hW => xr_mk hU hW hPc hK⟩ rfl rfl hl.1 rfl (lv_room (Nat.le_of_ble_eq_true rfl)) dX7_layWay_41 ⟨Nat.le_of_ble_eq_true rfl, Nat.le_of_ble_eq_true rfl⟩).run (fun r41 hr41 => ?_)
          clear hPc
          refine lv_istore (lv' := [(4, .int r41), (5, .int v30_5), (3, .int r6), (0, .ref RO), (1, .int x0), (2, .int x1)]) hx hb dX7_layWay_44 hl (by decide) rfl (fun ls hl => ?_)
          refine lv_aload_n hx hb dX7_layWay_46 rfl (lv_at hl 3 rfl) ?_
          refine lv_iload hx hb dX7_layWay_47 (lv_at hl 0 rfl) ?_
          have hPc := hP.sub (ws' := [(RO, .inr (7, oX7 FL aRO w30_RO_2)), ((aRO 1), .inl (cI, 8, .inl g30_aRO1))]) [0, 3] rfl
          have hDc := hD.sub (ws' := [(RO, .inr (7, oX7 FL aRO w30_RO_2)), ((aRO 1), .inl (cI, 8, .inl g30_aRO1))]) [0, 3] (by decide) rfl
          have hFc := va_free (wc := [(RO, .inr (7, oX7 FL aRO w30_RO_2)), ((aRO 1), .inl (cI, 8, .inl g30_aRO1))]) hD hS hA [0, 3] rfl
          refine va_callv (va_runV (As := [.int r41]) (rest := []) ⟨hx, hb, hml, hown, hts⟩ (c_X7_lay l D cI cB cL cZ cG RO r41 FL aRO w30_RO_2 g30_aRO1 H.size (zB_w bw30_RO_2_k30 (by decide) (by decide))) (cwV 1 hts gX7_layWay_X7_lay rfl rfl rfl (by decide +kernel) ⟨Nat.le_of_ble_eq_true rfl, Nat.le_of_ble_eq_true rfl⟩) ⟨xp_blind, va_recv hK hP (ci := 7) (q0 := 0) rfl rfl, fun U hU hW => xp_mk hU hW hPc hK hDc xNw_nil⟩ rfl rfl hl.1 rfl (lv_room (Nat.le_of_ble_eq_true rfl)) dX7_layWay_49 ⟨Nat.le_of_ble_eq_true rfl, Nat.le_of_ble_eq_true rfl⟩) hS (fun q _ h => hFc q h) hFc (fun u9 t9 H1 locs ht9 hvm9 hr49 hB9 hz9 hk9 hS => ?_)
          obtain ⟨o49_nRO_lying, o49_nROlie, bo49_nRO_lying, hP1, hD1⟩ := hB9
          rw [ht9] at hP1
          obtain ⟨hP, hD⟩ := va_join (wr := [(FL, .inr (0, oX0 PL aFL FL_parting)), ((aFL 2), .inl (cI, 64, .inl FL_far)), (PL, .inr (5, oX5 FO aPL PL_rooms PL_doors PL_things PL_draw PL_drawTold)), ((aFL 1), .inl (cI, 8, .inl FL_next))]) (w1 := [(RO, .inr (7, oX7 FL aRO o49_nRO_lying)), ((aRO 1), .inl (cI, 8, .inl o49_nROlie))]) hP hD [0, 3] [1, 2, 4, 5] rfl rfl (by decide) (by decide) hk9 hFc hP1 hD1
          clear hz9 hPc hDc hP1 hD1 hk9 hFc ht9 hvm9 u9 t9
          generalize H1 = H at hP hS ⊢
          replace hP : va_P D classes [(RO, .inr (7, oX7 FL aRO o49_nRO_lying)), (FL, .inr (0, oX0 PL aFL FL_parting)), ((aFL 2), .inl (cI, 64, .inl FL_far)), ((aRO 1), .inl (cI, 8, .inl o49_nROlie)), (PL, .inr (5, oX5 FO aPL PL_rooms PL_doors PL_things PL_draw PL_drawTold)), ((aFL 1), .inl (cI, 8, .inl FL_next))] H := hP.sub [4, 0, 1, 5, 2, 3] rfl
          replace hD : va_D A [(RO, .inr (7, oX7 FL aRO o49_nRO_lying)), (FL, .inr (0, oX0 PL aFL FL_parting)), ((aFL 2), .inl (cI, 64, .inl FL_far)), ((aRO 1), .inl (cI, 8, .inl o49_nROlie)), (PL, .inr (5, oX5 FO aPL PL_rooms PL_doors PL_things PL_draw PL_drawTold)), ((aFL 1), .inl (cI, 8, .inl FL_next))] := hD.sub [4, 0, 1, 5, 2, 3] (by decide) rfl
          obtain ⟨y52, by52, ry52, ey52⟩ := zi_inc (x := v30_5) (k := (-1)) (a := (-1)) (b := 5) by32f_v30_5 (by decide) (by decide) (by decide) (by decide) (by decide)
          refine lv_iinc (v := y52) (lv' := [(5, .int y52), (4, .int r41), (3, .int r6), (0, .ref RO), (1, .int x0), (2, .int x1)]) hx hb dX7_layWay_52 hl (k := 1) rfl ey52 (by decide) rfl (fun ls hl => ?_)
          refine lv_goto (tgt := 30) hx hb dX7_layWay_55 (by decide) ?_
          exact ih30 H locs ls y52 r41 o49_nRO_lying o49_nROlie (zB_w by52 (by decide) (by decide)) hr41 bo49_nRO_lying sFL_far_0_k30 (zM_ds (k := 1) hm30 ry52 (by decide)) hP hD hS (lv_sub hl [0, 1, 2, 3, 4, 5] rfl)
    refine lv_istore (lv' := [(5, .int y27), (4, .int x0), (3, .int r6), (0, .ref RO), (1, .int x0), (2, .int x1)]) hx hb dX7_layWay_28 hl (by decide) rfl (fun ls hl => ?_)
    exact j30 8 H locs ls y27 x0 o19_nRO_lying o19_nROlie by27 b_x0 bo19_nRO_lying s_FL_far_0 (zM_di by27 (by decide)) hP hD hS (lv_sub hl [0, 1, 2, 3, 4, 5] rfl)
  · have be12f_r6 : zB r6 (-1) (-1) := zB_eq c12 hr6 (show zB (-1) (-1) (-1) from ⟨by decide, by decide⟩) (by decide) (by decide)
    refine lv_iconst (v := (-1)) hx hb dX7_layWay_15 (by decide) ?_
    exact up _ _ _ (W.iret (v := (-1)) hx hb hr (fun t ht hW => ⟨⟨(-1), (), rfl, (zB_w (show zB (-1) (-1) (-1) from ⟨by decide, by decide⟩) (by decide) (by decide)), ⟨RO_lying, RO_lie, b_RO_lying, by rw [ht]; exact hP, hD⟩⟩, hS.F ht⟩) hS.2.2 dX7_layWay_16)
set_option maxHeartbeats 4000000 in
set_option maxRecDepth 100000 in
theorem c_X7_costBy (l : Launch) (D : va_G) (cI : ClassId) (cB : ClassId) (cL : ClassId) (cZ : ClassId) (cG : ClassId) (RO : Nat) (x0 : Int32) (x1 : Int32) (FL : Nat) (aRO : Nat → Nat) (RO_lying : Int32) (RO_cost : Nat → Int32) (PL : Nat) (aFL : Nat → Nat) (FL_parting : Int32) (PL_rooms : Int32) (aPL : Nat → Nat) (PL_doors : Int32) (PL_things : Int32) (FO : Nat) (PL_draw : Int32) (PL_drawTold : Int32) (PL_creaks : Nat → Int32) (b_x0 : zB x0 0 7) (b_x1 : zB x1 0 7) (b_RO_lying : zB RO_lying 0 8) (b_PL_rooms : zB PL_rooms 0 8) (b_PL_doors : zB PL_doors 0 12) (b_PL_things : zB PL_things 0 6) : Met l yX7_costBy wsX7_costBy ({ frames := 0, cells := 0, slots := 0, locals := 0 }) (xr D [(cI, .int), (cB, .byte), (cL, .long), (cZ, .boolean), (cG, .array .int)] [(RO, .inr (7, oX7 FL aRO RO_lying)), ((aRO 3), .inl (cI, 8, .inl RO_cost)), (FL, .inr (0, oX0 PL aFL FL_parting)), (PL, .inr (5, oX5 FO aPL PL_rooms PL_doors PL_things PL_draw PL_drawTold)), ((aPL 2), .inl (cI, 8, .inl PL_creaks))] [.ref RO, .int x0, .int x1]) (vp_Si (fun r => True)) 0 0 (fun _ => False) := by
  refine Met.ofW (cc := cX7_costBy) (maxL := 3) (ret := (some .int)) (by decide) rfl ?_
  intro p e s m args below meth c s₁ B hml hv
  obtain ⟨rfl, hP, hK⟩ := hv
  have hx := B.exec
  have hb := B.bytes
  have hr := B.returns
  have hts := atoms_spec (ws := wsX7_costBy) B.pre
  have hown : s.vm.findClass RX7 = some m.cls := findClass_of_methodNamed B.named
  have hlocks := B.notSynchronized
  clear B
  have hl := lv_entry ([.ref RO, .int x0, .int x1]) (n := 3) (Nat.le_of_ble_eq_true rfl)
  rw [lg_entry_eq]
  generalize (lg_sl ([.ref RO, .int x0, .int x1]) ++ List.replicate (3 - (lg_sl ([.ref RO, .int x0, .int x1])).length) Slot.unset).toArray = ls at hl ⊢
  replace hl : lv_has ls 3 [(0, .ref RO), (1, .int x0), (2, .int x1)] := hl
  refine lv_iload_n hx hb dX7_costBy_0 rfl (lv_at hl 1 rfl) ?_
  refine lv_iload_n hx hb dX7_costBy_1 rfl (lv_at hl 2 rfl) ?_
  refine lv_icmp_ne (tgt := 10) hx hb dX7_costBy_2 (by decide) (fun c2 => ?_) (fun c2 => ?_)
  · refine lv_aload_n hx hb dX7_costBy_10 rfl (lv_at hl 0 rfl) ?_
    refine va_get (D := D) (ci := 7) (v := .ref (aRO 3)) (C := RX7) (T := TX7) (N := 5) hx hb hts iw_X7_costBy_X7 hown hK hP 0 rfl rfl 3 (by decide) (hts (.fieldLink RX7 15 "SoldHouse$Routes" "cost" "[I") (List.mem_of_getElem? (i := 2) rfl)) (fun _ h9 => h9) rfl dX7_costBy_11 ?_
    refine lv_iload_n hx hb dX7_costBy_14 rfl (lv_at hl 2 rfl) ?_
    refine va_iald hx hb hK hP 1 0 rfl rfl (zB_in b_x1 (by decide) (by decide)) dX7_costBy_15 ?_
    refine lv_topi (fun y15 _ => ?_)
    refine lv_aload_n hx hb dX7_costBy_16 rfl (lv_at hl 0 rfl) ?_
    refine va_get (D := D) (ci := 7) (v := .ref FL) (C := RX7) (T := TX7) (N := 5) hx hb hts iw_X7_costBy_X7 hown hK hP 0 rfl rfl 0 (by decide) (hts (.fieldLink RX7 21 "SoldHouse$Routes" "floor" "LSoldHouse$Floor;") (List.mem_of_getElem? (i := 3) rfl)) (fun _ h9 => h9) rfl dX7_costBy_17 ?_
    refine va_get (D := D) (ci := 0) (v := .ref PL) (C := RX0) (T := TX0) (N := 5) hx hb hts iw_X7_costBy_X0 hown hK hP 2 rfl rfl 0 (by decide) (hts (.fieldLink RX7 52 "SoldHouse$Floor" "plan" "LSoldHouse$Plan;") (List.mem_of_getElem? (i := 4) rfl)) (fun _ h9 => h9) rfl dX7_costBy_20 ?_
    refine va_get (D := D) (ci := 5) (v := .ref (aPL 2)) (C := RX5) (T := TX5) (N := 16) hx hb hts iw_X7_costBy_X5 hown hK hP 3 rfl rfl 2 (by decide) (hts (.fieldLink RX7 94 "SoldHouse$Plan" "creaks" "[I") (List.mem_of_getElem? (i := 5) rfl)) (fun _ h9 => h9) rfl dX7_costBy_23 ?_
    refine lv_iload_n hx hb dX7_costBy_26 rfl (lv_at hl 2 rfl) ?_
    refine va_iald hx hb hK hP 4 0 rfl rfl (zB_in b_x1 (by decide) (by decide)) dX7_costBy_27 ?_
    refine lv_topi (fun y27 _ => ?_)
    refine lv_bipush (v := 16) hx hb dX7_costBy_28 (by decide) ?_
    refine lv_imul hx hb dX7_costBy_30 ?_
    refine lv_topi (fun y30 _ => ?_)
    refine lv_iadd hx hb dX7_costBy_31 ?_
    refine lv_topi (fun y31 _ => ?_)
    refine lv_iconst (v := 1) hx hb dX7_costBy_32 (by decide) ?_
    refine lv_iadd hx hb dX7_costBy_33 ?_
    refine lv_topi (fun y33 _ => ?_)
    exact W.iret (v := y33) hx hb hr (fun t ht hW => ⟨y33, rfl, trivial, ht⟩) (fun q hq => by cases hq) dX7_costBy_34
  · refine lv_ldc hx hb hown (hts (.constant RX7 85 (1048576)) (List.mem_of_getElem? (i := 1) rfl)) dX7_costBy_5 ?_
    refine lv_goto (tgt := 34) hx hb dX7_costBy_7 (by decide) ?_
    exact W.iret (v := 1048576) hx hb hr (fun t ht hW => ⟨1048576, rfl, trivial, ht⟩) (fun q hq => by cases hq) dX7_costBy_34
set_option maxHeartbeats 4000000 in
set_option maxRecDepth 100000 in
theorem c_X7_nextOnQuiet (l : Launch) (D : va_G) (cI : ClassId) (cB : ClassId) (cL : ClassId) (cZ : ClassId) (cG : ClassId) (RO : Nat) (x0 : Int32) (FL : Nat) (aRO : Nat → Nat) (RO_lying : Int32) (PL : Nat) (aFL : Nat → Nat) (FL_parting : Int32) (PL_rooms : Int32) (aPL : Nat → Nat) (PL_doors : Int32) (PL_things : Int32) (FO : Nat) (PL_draw : Int32) (PL_drawTold : Int32) (FL_next : Nat → Int32) (RO_cost : Nat → Int32) (PL_creaks : Nat → Int32) (b_x0 : zB x0 0 7) (b_RO_lying : zB RO_lying 0 8) (b_PL_rooms : zB PL_rooms 0 8) (b_PL_doors : zB PL_doors 0 12) (b_PL_things : zB PL_things 0 6) : Met l yX7_nextOnQuiet wsX7_nextOnQuiet ({ frames := 1, cells := 0, slots := 0, locals := 22 }) (xr D [(cI, .int), (cB, .byte), (cL, .long), (cZ, .boolean), (cG, .array .int)] [(RO, .inr (7, oX7 FL aRO RO_lying)), (FL, .inr (0, oX0 PL aFL FL_parting)), (PL, .inr (5, oX5 FO aPL PL_rooms PL_doors PL_things PL_draw PL_drawTold)), ((aFL 1), .inl (cI, 8, .inl FL_next)), ((aRO 3), .inl (cI, 8, .inl RO_cost)), ((aPL 2), .inl (cI, 8, .inl PL_creaks))] [.ref RO, .int x0]) (vp_Si (fun r => zB r 0 7)) 0 0 (fun _ => False) := by
  refine Met.ofW (cc := cX7_nextOnQuiet) (maxL := 5) (ret := (some .int)) (by decide) rfl ?_
  intro p e s m args below meth c s₁ B hml hv
  obtain ⟨rfl, hP, hK⟩ := hv
  have hx := B.exec
  have hb := B.bytes
  have hr := B.returns
  have hts := atoms_spec (ws := wsX7_nextOnQuiet) B.pre
  have hown : s.vm.findClass RX7 = some m.cls := findClass_of_methodNamed B.named
  have hlocks := B.notSynchronized
  clear B
  have hl := lv_entry ([.ref RO, .int x0]) (n := 5) (Nat.le_of_ble_eq_true rfl)
  rw [lg_entry_eq]
  generalize (lg_sl ([.ref RO, .int x0]) ++ List.replicate (5 - (lg_sl ([.ref RO, .int x0])).length) Slot.unset).toArray = ls at hl ⊢
  replace hl : lv_has ls 5 [(0, .ref RO), (1, .int x0)] := hl
  refine zz_abs (R := ({ frames := 1, cells := 0, slots := 0, locals := 22 } : Room)) (fun Q up => ?_)
  refine lv_iload_n hx hb dX7_nextOnQuiet_0 rfl (lv_at hl 1 rfl) ?_
  refine lv_istore_n (lv' := [(2, .int x0), (0, .ref RO), (1, .int x0)]) hx hb dX7_nextOnQuiet_1 rfl hl (by decide) rfl (fun ls hl => ?_)
  refine lv_ldc hx hb hown (hts (.constant RX7 85 (1048576)) (List.mem_of_getElem? (i := 1) rfl)) dX7_nextOnQuiet_2 ?_
  refine lv_istore_n (lv' := [(3, .int 1048576), (2, .int x0), (0, .ref RO), (1, .int x0)]) hx hb dX7_nextOnQuiet_4 rfl hl (by decide) rfl (fun ls hl => ?_)
  refine lv_iconst (v := 0) hx hb dX7_nextOnQuiet_5 (by decide) ?_
  have j8 : ∀ (n8 : Nat) (ls : Array Slot) (v8_4 : Int32) (v8_3 : Int32) (v8_2 : Int32), zB v8_4 0 8 → zB v8_2 0 7 → (8 + 1 - v8_4.toInt) ≤ (n8 : Int) → lv_has ls 5 [(4, .int v8_4), (3, .int v8_3), (2, .int v8_2), (0, .ref RO), (1, .int x0)] → W p l e ({ frames := 1, cells := 0, slots := 0, locals := 22 } : Room) s m ([.ref RO, .int x0] : List Value).toArray below meth c s.heap [] 0 0 Q (F0 m 8 ls []) := by
    intro n8
    induction n8 with
    | zero => intro ls v8_4 v8_3 v8_2 bv8_4_k8 bv8_2_k8 hm8 hl; exact zM_u0 bv8_4_k8 hm8
    | succ n8 ih8 =>
      intro ls v8_4 v8_3 v8_2 bv8_4_k8 bv8_2_k8 hm8 hl
      refine lv_iload hx hb dX7_nextOnQuiet_8 (lv_at hl 0 rfl) ?_
      refine lv_aload_n hx hb dX7_nextOnQuiet_10 rfl (lv_at hl 3 rfl) ?_
      refine va_get (D := D) (ci := 7) (v := .ref FL) (C := RX7) (T := TX7) (N := 5) hx hb hts iw_X7_nextOnQuiet_X7 hown hK hP 0 rfl rfl 0 (by decide) (hts (.fieldLink RX7 21 "SoldHouse$Routes" "floor" "LSoldHouse$Floor;") (List.mem_of_getElem? (i := 2) rfl)) (fun _ h9 => h9) rfl dX7_nextOnQuiet_11 ?_
      refine va_get (D := D) (ci := 0) (v := .ref PL) (C := RX0) (T := TX0) (N := 5) hx hb hts iw_X7_nextOnQuiet_X0 hown hK hP 1 rfl rfl 0 (by decide) (hts (.fieldLink RX7 52 "SoldHouse$Floor" "plan" "LSoldHouse$Plan;") (List.mem_of_getElem? (i := 3) rfl)) (fun _ h9 => h9) rfl dX7_nextOnQuiet_14 ?_
      refine va_get (D := D) (ci := 5) (v := .int PL_rooms) (C := RX5) (T := TX5) (N := 16) hx hb hts iw_X7_nextOnQuiet_X5 hown hK hP 2 rfl rfl 0 (by decide) (hts (.fieldLink RX7 56 "SoldHouse$Plan" "rooms" "I") (List.mem_of_getElem? (i := 4) rfl)) (fun _ h9 => h9) rfl dX7_nextOnQuiet_17 ?_
      refine lv_icmp_ge (tgt := 69) hx hb dX7_nextOnQuiet_20 (by decide) (fun c20 => ?_) (fun c20 => ?_)
      · refine lv_iload_n hx hb dX7_nextOnQuiet_69 rfl (lv_at hl 2 rfl) ?_
        exact up _ _ _ (W.iret (v := v8_2) hx hb hr (fun t ht hW => ⟨v8_2, rfl, bv8_2_k8, ht⟩) (fun q hq => by cases hq) dX7_nextOnQuiet_70)
      · have bx20f_v8_4 : zB v8_4 0 7 := zB_ltu (zf c20) bv8_4_k8 b_PL_rooms (by decide)
        have by20f_PL_rooms : zB PL_rooms 1 8 := zB_ltv (zf c20) bx20f_v8_4 b_PL_rooms (by decide)
        refine lv_aload_n hx hb dX7_nextOnQuiet_23 rfl (lv_at hl 3 rfl) ?_
        refine va_get (D := D) (ci := 7) (v := .ref FL) (C := RX7) (T := TX7) (N := 5) hx hb hts iw_X7_nextOnQuiet_X7 hown hK hP 0 rfl rfl 0 (by decide) (hts (.fieldLink RX7 21 "SoldHouse$Routes" "floor" "LSoldHouse$Floor;") (List.mem_of_getElem? (i := 2) rfl)) (fun _ h9 => h9) rfl dX7_nextOnQuiet_24 ?_
        refine va_get (D := D) (ci := 0) (v := .ref (aFL 1)) (C := RX0) (T := TX0) (N := 5) hx hb hts iw_X7_nextOnQuiet_X0 hown hK hP 1 rfl rfl 1 (by decide) (hts (.fieldLink RX7 82 "SoldHouse$Floor" "next" "[I") (List.mem_of_getElem? (i := 5) rfl)) (fun _ h9 => h9) rfl dX7_nextOnQuiet_27 ?_
        refine lv_iload_n hx hb dX7_nextOnQuiet_30 rfl (lv_at hl 4 rfl) ?_
        refine va_iald hx hb hK hP 3 0 rfl rfl (zB_in b_x0 (by decide) (by decide)) dX7_nextOnQuiet_31 ?_
        refine lv_topi (fun y31 _ => ?_)
        refine lv_iload hx hb dX7_nextOnQuiet_32 (lv_at hl 0 rfl) ?_
        refine lv_ishr hx hb dX7_nextOnQuiet_34 ?_
        refine lv_topi (fun y34 _ => ?_)
        refine lv_iconst (v := 1) hx hb dX7_nextOnQuiet_35 (by decide) ?_
        refine lv_iand hx hb dX7_nextOnQuiet_36 ?_
        refine zi_top (a := 0) (b := 1) (zB_andr (show zB 1 1 1 from ⟨by decide, by decide⟩) (by decide)) (fun y36 by36 => ?_)
        refine lv_iconst (v := 1) hx hb dX7_nextOnQuiet_37 (by decide) ?_
        have j63 : ∀ (ls : Array Slot) (v63_3 : Int32) (v63_2 : Int32), zB v63_2 0 7 → lv_has ls 5 [(4, .int v8_4), (3, .int v63_3), (2, .int v63_2), (0, .ref RO), (1, .int x0)] → W p l e ({ frames := 1, cells := 0, slots := 0, locals := 22 } : Room) s m ([.ref RO, .int x0] : List Value).toArray below meth c s.heap [] 0 0 Q (F0 m 63 ls []) := by
          intro ls v63_3 v63_2 bv63_2_k63 hl
          obtain ⟨y63, by63, ry63, ey63⟩ := zi_inc (x := v8_4) (k := 1) (a := 1) (b := 8) bx20f_v8_4 (by decide) (by decide) (by decide) (by decide) (by decide)
          refine lv_iinc (v := y63) (lv' := [(4, .int y63), (3, .int v63_3), (2, .int v63_2), (0, .ref RO), (1, .int x0)]) hx hb dX7_nextOnQuiet_63 hl (k := 0) rfl ey63 (by decide) rfl (fun ls hl => ?_)
          refine lv_goto (tgt := 8) hx hb dX7_nextOnQuiet_66 (by decide) ?_
          exact ih8 ls y63 v63_3 v63_2 (zB_w by63 (by decide) (by decide)) bv63_2_k63 (zM_us (k := 1) hm8 ry63 (by decide)) (lv_sub hl [0, 1, 2, 3, 4] rfl)
        refine lv_icmp_ne (tgt := 63) hx hb dX7_nextOnQuiet_38 (by decide) (fun c38 => ?_) (fun c38 => ?_)
        · have bn38t_y36 : zB y36 0 0 := zB_neH c38 by36 (show zB 1 1 1 from ⟨by decide, by decide⟩) (by decide)
          exact j63 ls v8_3 v8_2 bv8_2_k8 (lv_sub hl [0, 1, 2, 3, 4] rfl)
        · have be38f_y36 : zB y36 1 1 := zB_eq c38 by36 (show zB 1 1 1 from ⟨by decide, by decide⟩) (by decide) (by decide)
          refine lv_aload_n hx hb dX7_nextOnQuiet_41 rfl (lv_at hl 3 rfl) ?_
          refine lv_iload_n hx hb dX7_nextOnQuiet_42 rfl (lv_at hl 4 rfl) ?_
          refine lv_iload hx hb dX7_nextOnQuiet_43 (lv_at hl 0 rfl) ?_
          have hPc := hP.sub (ws' := [(RO, .inr (7, oX7 FL aRO RO_lying)), ((aRO 3), .inl (cI, 8, .inl RO_cost)), (FL, .inr (0, oX0 PL aFL FL_parting)), (PL, .inr (5, oX5 FO aPL PL_rooms PL_doors PL_things PL_draw PL_drawTold)), ((aPL 2), .inl (cI, 8, .inl PL_creaks))]) [0, 4, 1, 2, 5] rfl
          refine vp_callSi (va_runV (As := [.int x0, .int v8_4]) (rest := []) ⟨hx, hb, hml, hown, hts⟩ (c_X7_costBy l D cI cB cL cZ cG RO x0 v8_4 FL aRO RO_lying RO_cost PL aFL FL_parting PL_rooms aPL PL_doors PL_things FO PL_draw PL_drawTold PL_creaks b_x0 bx20f_v8_4 b_RO_lying (zB_w by20f_PL_rooms (by decide) (by decide)) b_PL_doors b_PL_things) (cwV 2 hts gX7_nextOnQuiet_X7_costBy rfl rfl rfl (by decide +kernel) ⟨Nat.le_of_ble_eq_true rfl, Nat.le_of_ble_eq_true rfl⟩) ⟨xr_blind, va_recv hK hP (ci := 7) (q0 := 0) rfl rfl, fun U hU hW => xr_mk hU hW hPc hK⟩ rfl rfl hl.1 rfl (lv_room (Nat.le_of_ble_eq_true rfl)) dX7_nextOnQuiet_45 ⟨Nat.le_of_ble_eq_true rfl, Nat.le_of_ble_eq_true rfl⟩).run (fun r45 hr45 => ?_)
          clear hPc
          clear hr45
          refine lv_iload_n hx hb dX7_nextOnQuiet_48 rfl (lv_at hl 1 rfl) ?_
          refine lv_icmp_ge (tgt := 63) hx hb dX7_nextOnQuiet_49 (by decide) (fun c49 => ?_) (fun c49 => ?_)
          · exact j63 ls v8_3 v8_2 bv8_2_k8 (lv_sub hl [0, 1, 2, 3, 4] rfl)
          · have bx49f_r45 : zB r45 (-2147483648) 2147483646 := zB_ltu (zf c49) (zB_top r45) (zB_top v8_3) (by decide)
            have by49f_v8_3 : zB v8_3 (-2147483647) 2147483647 := zB_ltv (zf c49) bx49f_r45 (zB_top v8_3) (by decide)
            refine lv_aload_n hx hb dX7_nextOnQuiet_52 rfl (lv_at hl 3 rfl) ?_
            refine lv_iload_n hx hb dX7_nextOnQuiet_53 rfl (lv_at hl 4 rfl) ?_
            refine lv_iload hx hb dX7_nextOnQuiet_54 (lv_at hl 0 rfl) ?_
            have hPc := hP.sub (ws' := [(RO, .inr (7, oX7 FL aRO RO_lying)), ((aRO 3), .inl (cI, 8, .inl RO_cost)), (FL, .inr (0, oX0 PL aFL FL_parting)), (PL, .inr (5, oX5 FO aPL PL_rooms PL_doors PL_things PL_draw PL_drawTold)), ((aPL 2), .inl (cI, 8, .inl PL_creaks))]) [0, 4, 1, 2, 5] rfl
            refine vp_callSi (va_runV (As := [.int x0, .int v8_4]) (rest := []) ⟨hx, hb, hml, hown, hts⟩ (c_X7_costBy l D cI cB cL cZ cG RO x0 v8_4 FL aRO RO_lying RO_cost PL aFL FL_parting PL_rooms aPL PL_doors PL_things FO PL_draw PL_drawTold PL_creaks b_x0 bx20f_v8_4 b_RO_lying (zB_w by20f_PL_rooms (by decide) (by decide)) b_PL_doors b_PL_things) (cwV 2 hts gX7_nextOnQuiet_X7_costBy rfl rfl rfl (by decide +kernel) ⟨Nat.le_of_ble_eq_true rfl, Nat.le_of_ble_eq_true rfl⟩) ⟨xr_blind, va_recv hK hP (ci := 7) (q0 := 0) rfl rfl, fun U hU hW => xr_mk hU hW hPc hK⟩ rfl rfl hl.1 rfl (lv_room (Nat.le_of_ble_eq_true rfl)) dX7_nextOnQuiet_56 ⟨Nat.le_of_ble_eq_true rfl, Nat.le_of_ble_eq_true rfl⟩).run (fun r56 hr56 => ?_)
            clear hPc
            clear hr56
            refine lv_istore_n (lv' := [(3, .int r56), (4, .int v8_4), (2, .int v8_2), (0, .ref RO), (1, .int x0)]) hx hb dX7_nextOnQuiet_59 rfl hl (by decide) rfl (fun ls hl => ?_)
            refine lv_iload hx hb dX7_nextOnQuiet_60 (lv_at hl 1 rfl) ?_
            refine lv_istore_n (lv' := [(2, .int v8_4), (3, .int r56), (4, .int v8_4), (0, .ref RO), (1, .int x0)]) hx hb dX7_nextOnQuiet_62 rfl hl (by decide) rfl (fun ls hl => ?_)
            exact j63 ls r56 v8_4 bx20f_v8_4 (lv_sub hl [2, 1, 0, 3, 4] rfl)
  refine lv_istore (lv' := [(4, .int 0), (3, .int 1048576), (2, .int x0), (0, .ref RO), (1, .int x0)]) hx hb dX7_nextOnQuiet_6 hl (by decide) rfl (fun ls hl => ?_)
  exact j8 9 ls 0 1048576 x0 (zB_w (show zB 0 0 0 from ⟨by decide, by decide⟩) (by decide) (by decide)) b_x0 (zM_ui (show zB 0 0 0 from ⟨by decide, by decide⟩) (by decide)) (lv_sub hl [0, 1, 2, 3, 4] rfl)
set_option maxHeartbeats 4000000 in
set_option maxRecDepth 100000 in
theorem c_X7_costTo (l : Launch) (D : va_G) (cI : ClassId) (cB : ClassId) (cL : ClassId) (cZ : ClassId) (cG : ClassId) (RO : Nat) (x0 : Int32) (FL : Nat) (aRO : Nat → Nat) (RO_lying : Int32) (RO_cost : Nat → Int32) (PL : Nat) (aFL : Nat → Nat) (FL_parting : Int32) (PL_rooms : Int32) (aPL : Nat → Nat) (PL_doors : Int32) (PL_things : Int32) (FO : Nat) (PL_draw : Int32) (PL_drawTold : Int32) (FL_next : Nat → Int32) (PL_creaks : Nat → Int32) (sz : Nat) (b_x0 : zB x0 0 7) (b_RO_lying : zB RO_lying 0 8) (b_PL_rooms : zB PL_rooms 0 8) (b_PL_doors : zB PL_doors 0 12) (b_PL_things : zB PL_things 0 6) : Met l yX7_costTo wsX7_costTo ({ frames := 2, cells := 0, slots := 0, locals := 46 }) (xp D [(cI, .int), (cB, .byte), (cL, .long), (cZ, .boolean), (cG, .array .int)] [(RO, .inr (7, oX7 FL aRO RO_lying)), ((aRO 3), .inl (cI, 8, .inl RO_cost)), (FL, .inr (0, oX0 PL aFL FL_parting)), (PL, .inr (5, oX5 FO aPL PL_rooms PL_doors PL_things PL_draw PL_drawTold)), ((aFL 1), .inl (cI, 8, .inl FL_next)), ((aPL 2), .inl (cI, 8, .inl PL_creaks))] sz [] [.ref RO, .int x0]) (va_Qv (fun _ : Unit => True) (fun (_ : Unit) (t : State) => ∃ (nROcost : Nat → Int32), xB D (va_A [(RO, .inr (7, oX7 FL aRO RO_lying)), ((aRO 3), .inl (cI, 8, .inl RO_cost)), (FL, .inr (0, oX0 PL aFL FL_parting)), (PL, .inr (5, oX5 FO aPL PL_rooms PL_doors PL_things PL_draw PL_drawTold)), ((aFL 1), .inl (cI, 8, .inl FL_next)), ((aPL 2), .inl (cI, 8, .inl PL_creaks))] sz) [(RO, .inr (7, oX7 FL aRO RO_lying)), ((aRO 3), .inl (cI, 8, .inl nROcost)), (FL, .inr (0, oX0 PL aFL FL_parting)), (PL, .inr (5, oX5 FO aPL PL_rooms PL_doors PL_things PL_draw PL_drawTold)), ((aFL 1), .inl (cI, 8, .inl FL_next)), ((aPL 2), .inl (cI, 8, .inl PL_creaks))] t) (va_A [(RO, .inr (7, oX7 FL aRO RO_lying)), ((aRO 3), .inl (cI, 8, .inl RO_cost)), (FL, .inr (0, oX0 PL aFL FL_parting)), (PL, .inr (5, oX5 FO aPL PL_rooms PL_doors PL_things PL_draw PL_drawTold)), ((aFL 1), .inl (cI, 8, .inl FL_next)), ((aPL 2), .inl (cI, 8, .inl PL_creaks))] sz)) 0 0 (va_A [(RO, .inr (7, oX7 FL aRO RO_lying)), ((aRO 3), .inl (cI, 8, .inl RO_cost)), (FL, .inr (0, oX0 PL aFL FL_parting)), (PL, .inr (5, oX5 FO aPL PL_rooms PL_doors PL_things PL_draw PL_drawTold)), ((aFL 1), .inl (cI, 8, .inl FL_next)), ((aPL 2), .inl (cI, 8, .inl PL_creaks))] sz) := by
  refine Met.ofW (cc := cX7_costTo) (maxL := 4) (ret := none) (by decide) rfl ?_
  intro p e s m args below meth c s₁ B hml hv
  obtain ⟨rfl, hsz, hP, hK, hD0, hNw⟩ := hv
  have hx := B.exec
  have hb := B.bytes
  have hr := B.returns
  have hts := atoms_spec (ws := wsX7_costTo) B.pre
  have hown : s.vm.findClass RX7 = some m.cls := findClass_of_methodNamed B.named
  have hlocks := B.notSynchronized
  clear B
  subst hsz
  have hD := hD0.self (sz := s.heap.size)
  clear hD0 hNw
  generalize hAe : va_A [(RO, .inr (7, oX7 FL aRO RO_lying)), ((aRO 3), .inl (cI, 8, .inl RO_cost)), (FL, .inr (0, oX0 PL aFL FL_parting)), (PL, .inr (5, oX5 FO aPL PL_rooms PL_doors PL_things PL_draw PL_drawTold)), ((aFL 1), .inl (cI, 8, .inl FL_next)), ((aPL 2), .inl (cI, 8, .inl PL_creaks))] s.heap.size = A at hD ⊢
  have hA : ∀ q : Nat, s.heap.size ≤ q → A q := fun q h => by rw [← hAe]; exact Or.inr h
  have hS : va_S A s.heap s.heap [] := va_S.rf
  clear hAe
  obtain ⟨H, hH⟩ : ∃ H : Heap, H = s.heap := ⟨_, rfl⟩
  obtain ⟨locs, hlocs⟩ : ∃ L : List Loc, L = [] := ⟨_, rfl⟩
  replace hP : va_P D classes [(RO, .inr (7, oX7 FL aRO RO_lying)), ((aRO 3), .inl (cI, 8, .inl RO_cost)), (FL, .inr (0, oX0 PL aFL FL_parting)), (PL, .inr (5, oX5 FO aPL PL_rooms PL_doors PL_things PL_draw PL_drawTold)), ((aFL 1), .inl (cI, 8, .inl FL_next)), ((aPL 2), .inl (cI, 8, .inl PL_creaks))] H := by rw [hH]; exact hP
  replace hS : va_S A s.heap H locs := by rw [hH, hlocs]; exact hS
  rw [← hH, ← hlocs]
  clear hlocs hH
  have hl := lv_entry ([.ref RO, .int x0]) (n := 4) (Nat.le_of_ble_eq_true rfl)
  rw [lg_entry_eq]
  generalize (lg_sl ([.ref RO, .int x0]) ++ List.replicate (4 - (lg_sl ([.ref RO, .int x0])).length) Slot.unset).toArray = ls at hl ⊢
  replace hl : lv_has ls 4 [(0, .ref RO), (1, .int x0)] := hl
  refine zz_abs (R := ({ frames := 2, cells := 0, slots := 0, locals := 46 } : Room)) (fun Q up => ?_)
  refine lv_aload_n hx hb dX7_costTo_0 rfl (lv_at hl 0 rfl) ?_
  refine va_get (D := D) (ci := 7) (v := .ref (aRO 3)) (C := RX7) (T := TX7) (N := 5) hx hb hts iw_X7_costTo_X7 hown hK hP 0 rfl rfl 3 (by decide) (hts (.fieldLink RX7 15 "SoldHouse$Routes" "cost" "[I") (List.mem_of_getElem? (i := 1) rfl)) (fun _ h9 => h9) rfl dX7_costTo_1 ?_
  refine lv_ldc hx hb hown (hts (.constant RX7 85 (1048576)) (List.mem_of_getElem? (i := 2) rfl)) dX7_costTo_4 ?_
  have hPc := hP.sub (ws' := [((aRO 3), .inl (cI, 8, .inl RO_cost))]) [1] rfl
  have hDc := hD.sub (ws' := [((aRO 3), .inl (cI, 8, .inl RO_cost))]) [1] (by decide) rfl
  have hFc := va_free (wc := [((aRO 3), .inl (cI, 8, .inl RO_cost))]) hD hS hA [1] rfl
  refine va_callv (va_runS (As := [.ref (aRO 3), .int 1048576]) (rest := []) ⟨hx, hb, hml, hown, hts⟩ (c_fill8 l D cI cB cL cZ cG (aRO 3) RO_cost 1048576 H.size) (va_cwS 2 hts gX7_costTo_J7_fill_53178 rfl rfl rfl (by decide +kernel) ⟨Nat.le_of_ble_eq_true rfl, Nat.le_of_ble_eq_true rfl⟩) ⟨xp_blind, fun U hU hW => xp_mk hU hW hPc hK hDc xNw_nil⟩ rfl rfl hl.1 rfl (lv_room (Nat.le_of_ble_eq_true rfl)) dX7_costTo_6 ⟨Nat.le_of_ble_eq_true rfl, Nat.le_of_ble_eq_true rfl⟩) hS (fun q _ h => hFc q h) hFc (fun u9 t9 H1 locs ht9 hvm9 hr6 hB9 hz9 hk9 hS => ?_)
  obtain ⟨o6_narf, hP1, hD1⟩ := hB9
  rw [ht9] at hP1
  obtain ⟨hP, hD⟩ := va_join (wr := [(RO, .inr (7, oX7 FL aRO RO_lying)), (FL, .inr (0, oX0 PL aFL FL_parting)), (PL, .inr (5, oX5 FO aPL PL_rooms PL_doors PL_things PL_draw PL_drawTold)), ((aFL 1), .inl (cI, 8, .inl FL_next)), ((aPL 2), .inl (cI, 8, .inl PL_creaks))]) (w1 := [((aRO 3), .inl (cI, 8, .inl o6_narf))]) hP hD [1] [0, 2, 3, 4, 5] rfl rfl (by decide) (by decide) hk9 hFc hP1 hD1
  clear hz9 hPc hDc hP1 hD1 hk9 hFc ht9 hvm9 u9 t9
  generalize H1 = H at hP hS ⊢
  replace hP : va_P D classes [(RO, .inr (7, oX7 FL aRO RO_lying)), ((aRO 3), .inl (cI, 8, .inl o6_narf)), (FL, .inr (0, oX0 PL aFL FL_parting)), (PL, .inr (5, oX5 FO aPL PL_rooms PL_doors PL_things PL_draw PL_drawTold)), ((aFL 1), .inl (cI, 8, .inl FL_next)), ((aPL 2), .inl (cI, 8, .inl PL_creaks))] H := hP.sub [0, 5, 1, 2, 3, 4] rfl
  replace hD : va_D A [(RO, .inr (7, oX7 FL aRO RO_lying)), ((aRO 3), .inl (cI, 8, .inl o6_narf)), (FL, .inr (0, oX0 PL aFL FL_parting)), (PL, .inr (5, oX5 FO aPL PL_rooms PL_doors PL_things PL_draw PL_drawTold)), ((aFL 1), .inl (cI, 8, .inl FL_next)), ((aPL 2), .inl (cI, 8, .inl PL_creaks))] := hD.sub [0, 5, 1, 2, 3, 4] (by decide) rfl
  refine lv_aload_n hx hb dX7_costTo_9 rfl (lv_at hl 0 rfl) ?_
  refine va_get (D := D) (ci := 7) (v := .ref (aRO 3)) (C := RX7) (T := TX7) (N := 5) hx hb hts iw_X7_costTo_X7 hown hK hP 0 rfl rfl 3 (by decide) (hts (.fieldLink RX7 15 "SoldHouse$Routes" "cost" "[I") (List.mem_of_getElem? (i := 1) rfl)) (fun _ h9 => h9) rfl dX7_costTo_10 ?_
  refine lv_iload_n hx hb dX7_costTo_13 rfl (lv_at hl 1 rfl) ?_
  refine lv_iconst (v := 0) hx hb dX7_costTo_14 (by decide) ?_
  refine zi_iast hx hb hK hP hD hS 1 0 rfl rfl (zB_in b_x0 (by decide) (by decide)) dX7_costTo_15 (fun H locs g15 eg15 hP hD hS => ?_)
  replace hP : va_P D classes [(RO, .inr (7, oX7 FL aRO RO_lying)), ((aRO 3), .inl (cI, 8, .inl g15)), (FL, .inr (0, oX0 PL aFL FL_parting)), (PL, .inr (5, oX5 FO aPL PL_rooms PL_doors PL_things PL_draw PL_drawTold)), ((aFL 1), .inl (cI, 8, .inl FL_next)), ((aPL 2), .inl (cI, 8, .inl PL_creaks))] H := hP
  replace hD : va_D A [(RO, .inr (7, oX7 FL aRO RO_lying)), ((aRO 3), .inl (cI, 8, .inl g15)), (FL, .inr (0, oX0 PL aFL FL_parting)), (PL, .inr (5, oX5 FO aPL PL_rooms PL_doors PL_things PL_draw PL_drawTold)), ((aFL 1), .inl (cI, 8, .inl FL_next)), ((aPL 2), .inl (cI, 8, .inl PL_creaks))] := hD
  clear eg15
  refine lv_iconst (v := 0) hx hb dX7_costTo_16 (by decide) ?_
  have j18 : ∀ (n18 : Nat) (H : Heap) (locs : List Loc) (ls : Array Slot) (v18_2 : Int32) (g18_aRO3 : Nat → Int32), zB v18_2 0 8 → (8 + 1 - v18_2.toInt) ≤ (n18 : Int) → va_P D classes [(RO, .inr (7, oX7 FL aRO RO_lying)), ((aRO 3), .inl (cI, 8, .inl g18_aRO3)), (FL, .inr (0, oX0 PL aFL FL_parting)), (PL, .inr (5, oX5 FO aPL PL_rooms PL_doors PL_things PL_draw PL_drawTold)), ((aFL 1), .inl (cI, 8, .inl FL_next)), ((aPL 2), .inl (cI, 8, .inl PL_creaks))] H → va_D A [(RO, .inr (7, oX7 FL aRO RO_lying)), ((aRO 3), .inl (cI, 8, .inl g18_aRO3)), (FL, .inr (0, oX0 PL aFL FL_parting)), (PL, .inr (5, oX5 FO aPL PL_rooms PL_doors PL_things PL_draw PL_drawTold)), ((aFL 1), .inl (cI, 8, .inl FL_next)), ((aPL 2), .inl (cI, 8, .inl PL_creaks))] → va_S A s.heap H locs → lv_has ls 4 [(2, .int v18_2), (0, .ref RO), (1, .int x0)] → W p l e ({ frames := 2, cells := 0, slots := 0, locals := 46 } : Room) s m ([.ref RO, .int x0] : List Value).toArray below meth c H locs 0 0 Q (F0 m 18 ls []) := by
    intro n18
    induction n18 with
    | zero => intro H locs ls v18_2 g18_aRO3 bv18_2_k18 hm18 hP hD hS hl; exact zM_u0 bv18_2_k18 hm18
    | succ n18 ih18 =>
      intro H locs ls v18_2 g18_aRO3 bv18_2_k18 hm18 hP hD hS hl
      refine lv_iload_n hx hb dX7_costTo_18 rfl (lv_at hl 0 rfl) ?_
      refine lv_bipush (v := 8) hx hb dX7_costTo_19 (by decide) ?_
      refine lv_icmp_ge (tgt := 82) hx hb dX7_costTo_21 (by decide) (fun c21 => ?_) (fun c21 => ?_)
      · have by21t_v18_2 : zB v18_2 8 8 := zB_lev (ze c21) (show zB 8 8 8 from ⟨by decide, by decide⟩) bv18_2_k18 (by decide)
        exact up _ _ _ (W.vret hx hb hr (fun t ht hW => ⟨⟨(), rfl, trivial, ⟨g18_aRO3, by rw [ht]; exact hP, hD⟩⟩, hS.F ht⟩) hS.2.2 dX7_costTo_82)
      · have bx21f_v18_2 : zB v18_2 0 7 := zB_ltu (zf c21) bv18_2_k18 (show zB 8 8 8 from ⟨by decide, by decide⟩) (by decide)
        refine lv_iconst (v := 0) hx hb dX7_costTo_24 (by decide) ?_
        have j26 : ∀ (n26 : Nat) (H : Heap) (locs : List Loc) (ls : Array Slot) (v26_3 : Int32) (g26_aRO3 : Nat → Int32), zB v26_3 0 8 → (8 + 1 - v26_3.toInt) ≤ (n26 : Int) → va_P D classes [(RO, .inr (7, oX7 FL aRO RO_lying)), ((aRO 3), .inl (cI, 8, .inl g26_aRO3)), (FL, .inr (0, oX0 PL aFL FL_parting)), (PL, .inr (5, oX5 FO aPL PL_rooms PL_doors PL_things PL_draw PL_drawTold)), ((aFL 1), .inl (cI, 8, .inl FL_next)), ((aPL 2), .inl (cI, 8, .inl PL_creaks))] H → va_D A [(RO, .inr (7, oX7 FL aRO RO_lying)), ((aRO 3), .inl (cI, 8, .inl g26_aRO3)), (FL, .inr (0, oX0 PL aFL FL_parting)), (PL, .inr (5, oX5 FO aPL PL_rooms PL_doors PL_things PL_draw PL_drawTold)), ((aFL 1), .inl (cI, 8, .inl FL_next)), ((aPL 2), .inl (cI, 8, .inl PL_creaks))] → va_S A s.heap H locs → lv_has ls 4 [(3, .int v26_3), (2, .int v18_2), (0, .ref RO), (1, .int x0)] → W p l e ({ frames := 2, cells := 0, slots := 0, locals := 46 } : Room) s m ([.ref RO, .int x0] : List Value).toArray below meth c H locs 0 0 Q (F0 m 26 ls []) := by
          intro n26
          induction n26 with
          | zero => intro H locs ls v26_3 g26_aRO3 bv26_3_k26 hm26 hP hD hS hl; exact zM_u0 bv26_3_k26 hm26
          | succ n26 ih26 =>
            intro H locs ls v26_3 g26_aRO3 bv26_3_k26 hm26 hP hD hS hl
            refine lv_iload_n hx hb dX7_costTo_26 rfl (lv_at hl 0 rfl) ?_
            refine lv_aload_n hx hb dX7_costTo_27 rfl (lv_at hl 2 rfl) ?_
            refine va_get (D := D) (ci := 7) (v := .ref FL) (C := RX7) (T := TX7) (N := 5) hx hb hts iw_X7_costTo_X7 hown hK hP 0 rfl rfl 0 (by decide) (hts (.fieldLink RX7 21 "SoldHouse$Routes" "floor" "LSoldHouse$Floor;") (List.mem_of_getElem? (i := 3) rfl)) (fun _ h9 => h9) rfl dX7_costTo_28 ?_
            refine va_get (D := D) (ci := 0) (v := .ref PL) (C := RX0) (T := TX0) (N := 5) hx hb hts iw_X7_costTo_X0 hown hK hP 2 rfl rfl 0 (by decide) (hts (.fieldLink RX7 52 "SoldHouse$Floor" "plan" "LSoldHouse$Plan;") (List.mem_of_getElem? (i := 4) rfl)) (fun _ h9 => h9) rfl dX7_costTo_31 ?_
            refine va_get (D := D) (ci := 5) (v := .int PL_rooms) (C := RX5) (T := TX5) (N := 16) hx hb hts iw_X7_costTo_X5 hown hK hP 3 rfl rfl 0 (by decide) (hts (.fieldLink RX7 56 "SoldHouse$Plan" "rooms" "I") (List.mem_of_getElem? (i := 5) rfl)) (fun _ h9 => h9) rfl dX7_costTo_34 ?_
            refine lv_icmp_ge (tgt := 76) hx hb dX7_costTo_37 (by decide) (fun c37 => ?_) (fun c37 => ?_)
            · obtain ⟨y76, by76, ry76, ey76⟩ := zi_inc (x := v18_2) (k := 1) (a := 1) (b := 8) bx21f_v18_2 (by decide) (by decide) (by decide) (by decide) (by decide)
              refine lv_iinc (v := y76) (lv' := [(2, .int y76), (3, .int v26_3), (0, .ref RO), (1, .int x0)]) hx hb dX7_costTo_76 hl (k := 1) rfl ey76 (by decide) rfl (fun ls hl => ?_)
              refine lv_goto (tgt := 18) hx hb dX7_costTo_79 (by decide) ?_
              exact ih18 H locs ls y76 g26_aRO3 (zB_w by76 (by decide) (by decide)) (zM_us (k := 1) hm18 ry76 (by decide)) hP hD hS (lv_sub hl [0, 2, 3] rfl)
            · have bx37f_v26_3 : zB v26_3 0 7 := zB_ltu (zf c37) bv26_3_k26 b_PL_rooms (by decide)
              have by37f_PL_rooms : zB PL_rooms 1 8 := zB_ltv (zf c37) bx37f_v26_3 b_PL_rooms (by decide)
              refine lv_iload_n hx hb dX7_costTo_40 rfl (lv_at hl 0 rfl) ?_
              refine lv_iload_n hx hb dX7_costTo_41 rfl (lv_at hl 3 rfl) ?_
              have j70 : ∀ (H : Heap) (locs : List Loc) (ls : Array Slot) (g70_aRO3 : Nat → Int32), va_P D classes [(RO, .inr (7, oX7 FL aRO RO_lying)), ((aRO 3), .inl (cI, 8, .inl g70_aRO3)), (FL, .inr (0, oX0 PL aFL FL_parting)), (PL, .inr (5, oX5 FO aPL PL_rooms PL_doors PL_things PL_draw PL_drawTold)), ((aFL 1), .inl (cI, 8, .inl FL_next)), ((aPL 2), .inl (cI, 8, .inl PL_creaks))] H → va_D A [(RO, .inr (7, oX7 FL aRO RO_lying)), ((aRO 3), .inl (cI, 8, .inl g70_aRO3)), (FL, .inr (0, oX0 PL aFL FL_parting)), (PL, .inr (5, oX5 FO aPL PL_rooms PL_doors PL_things PL_draw PL_drawTold)), ((aFL 1), .inl (cI, 8, .inl FL_next)), ((aPL 2), .inl (cI, 8, .inl PL_creaks))] → va_S A s.heap H locs → lv_has ls 4 [(3, .int v26_3), (2, .int v18_2), (0, .ref RO), (1, .int x0)] → W p l e ({ frames := 2, cells := 0, slots := 0, locals := 46 } : Room) s m ([.ref RO, .int x0] : List Value).toArray below meth c H locs 0 0 Q (F0 m 70 ls []) := by
                intro H locs ls g70_aRO3 hP hD hS hl
                obtain ⟨y70, by70, ry70, ey70⟩ := zi_inc (x := v26_3) (k := 1) (a := 1) (b := 8) bx37f_v26_3 (by decide) (by decide) (by decide) (by decide) (by decide)
                refine lv_iinc (v := y70) (lv' := [(3, .int y70), (2, .int v18_2), (0, .ref RO), (1, .int x0)]) hx hb dX7_costTo_70 hl (k := 0) rfl ey70 (by decide) rfl (fun ls hl => ?_)
                refine lv_goto (tgt := 26) hx hb dX7_costTo_73 (by decide) ?_
                exact ih26 H locs ls y70 g70_aRO3 (zB_w by70 (by decide) (by decide)) (zM_us (k := 1) hm26 ry70 (by decide)) hP hD hS (lv_sub hl [0, 1, 2, 3] rfl)
              refine lv_icmp_eq (tgt := 70) hx hb dX7_costTo_42 (by decide) (fun c42 => ?_) (fun c42 => ?_)
              · exact j70 H locs ls g26_aRO3 hP hD hS (lv_sub hl [0, 1, 2, 3] rfl)
              · refine lv_aload_n hx hb dX7_costTo_45 rfl (lv_at hl 2 rfl) ?_
                refine va_get (D := D) (ci := 7) (v := .ref (aRO 3)) (C := RX7) (T := TX7) (N := 5) hx hb hts iw_X7_costTo_X7 hown hK hP 0 rfl rfl 3 (by decide) (hts (.fieldLink RX7 15 "SoldHouse$Routes" "cost" "[I") (List.mem_of_getElem? (i := 1) rfl)) (fun _ h9 => h9) rfl dX7_costTo_46 ?_
                refine lv_iload_n hx hb dX7_costTo_49 rfl (lv_at hl 0 rfl) ?_
                refine lv_aload_n hx hb dX7_costTo_50 rfl (lv_at hl 2 rfl) ?_
                refine va_get (D := D) (ci := 7) (v := .ref (aRO 3)) (C := RX7) (T := TX7) (N := 5) hx hb hts iw_X7_costTo_X7 hown hK hP 0 rfl rfl 3 (by decide) (hts (.fieldLink RX7 15 "SoldHouse$Routes" "cost" "[I") (List.mem_of_getElem? (i := 1) rfl)) (fun _ h9 => h9) rfl dX7_costTo_51 ?_
                refine lv_iload_n hx hb dX7_costTo_54 rfl (lv_at hl 0 rfl) ?_
                refine va_iald hx hb hK hP 1 0 rfl rfl (zB_in bx37f_v26_3 (by decide) (by decide)) dX7_costTo_55 ?_
                refine lv_topi (fun y55 _ => ?_)
                refine lv_aload_n hx hb dX7_costTo_56 rfl (lv_at hl 2 rfl) ?_
                refine lv_iload_n hx hb dX7_costTo_57 rfl (lv_at hl 0 rfl) ?_
                refine lv_aload_n hx hb dX7_costTo_58 rfl (lv_at hl 2 rfl) ?_
                refine lv_iload_n hx hb dX7_costTo_59 rfl (lv_at hl 0 rfl) ?_
                have hPc := hP.sub (ws' := [(RO, .inr (7, oX7 FL aRO RO_lying)), (FL, .inr (0, oX0 PL aFL FL_parting)), (PL, .inr (5, oX5 FO aPL PL_rooms PL_doors PL_things PL_draw PL_drawTold)), ((aFL 1), .inl (cI, 8, .inl FL_next)), ((aRO 3), .inl (cI, 8, .inl g26_aRO3)), ((aPL 2), .inl (cI, 8, .inl PL_creaks))]) [0, 2, 3, 4, 1, 5] rfl
                refine vp_callSi (va_runV (As := [.int v26_3]) (rest := [.int v26_3, .ref RO, .int y55, .int v26_3, .ref (aRO 3)]) ⟨hx, hb, hml, hown, hts⟩ (c_X7_nextOnQuiet l D cI cB cL cZ cG RO v26_3 FL aRO RO_lying PL aFL FL_parting PL_rooms aPL PL_doors PL_things FO PL_draw PL_drawTold FL_next g26_aRO3 PL_creaks bx37f_v26_3 b_RO_lying (zB_w by37f_PL_rooms (by decide) (by decide)) b_PL_doors b_PL_things) (cwV 1 hts gX7_costTo_X7_nextOnQuiet rfl rfl rfl (by decide +kernel) ⟨Nat.le_of_ble_eq_true rfl, Nat.le_of_ble_eq_true rfl⟩) ⟨xr_blind, va_recv hK hP (ci := 7) (q0 := 0) rfl rfl, fun U hU hW => xr_mk hU hW hPc hK⟩ rfl rfl hl.1 rfl (lv_room (Nat.le_of_ble_eq_true rfl)) dX7_costTo_60 ⟨Nat.le_of_ble_eq_true rfl, Nat.le_of_ble_eq_true rfl⟩).run (fun r60 hr60 => ?_)
                clear hPc
                have hPc := hP.sub (ws' := [(RO, .inr (7, oX7 FL aRO RO_lying)), ((aRO 3), .inl (cI, 8, .inl g26_aRO3)), (FL, .inr (0, oX0 PL aFL FL_parting)), (PL, .inr (5, oX5 FO aPL PL_rooms PL_doors PL_things PL_draw PL_drawTold)), ((aPL 2), .inl (cI, 8, .inl PL_creaks))]) [0, 1, 2, 3, 5] rfl
                refine vp_callSi (va_runV (As := [.int v26_3, .int r60]) (rest := [.int y55, .int v26_3, .ref (aRO 3)]) ⟨hx, hb, hml, hown, hts⟩ (c_X7_costBy l D cI cB cL cZ cG RO v26_3 r60 FL aRO RO_lying g26_aRO3 PL aFL FL_parting PL_rooms aPL PL_doors PL_things FO PL_draw PL_drawTold PL_creaks bx37f_v26_3 hr60 b_RO_lying (zB_w by37f_PL_rooms (by decide) (by decide)) b_PL_doors b_PL_things) (cwV 2 hts gX7_costTo_X7_costBy rfl rfl rfl (by decide +kernel) ⟨Nat.le_of_ble_eq_true rfl, Nat.le_of_ble_eq_true rfl⟩) ⟨xr_blind, va_recv hK hP (ci := 7) (q0 := 0) rfl rfl, fun U hU hW => xr_mk hU hW hPc hK⟩ rfl rfl hl.1 rfl (lv_room (Nat.le_of_ble_eq_true rfl)) dX7_costTo_63 ⟨Nat.le_of_ble_eq_true rfl, Nat.le_of_ble_eq_true rfl⟩).run (fun r63 hr63 => ?_)
                clear hPc
                clear hr63
                refine va_mmin hx hb (by rw [hml]; exact hl.1.symm) hown (hts (.methodLink RX7 89 Lib.Math.min.name) (List.mem_of_getElem? (i := 6) rfl)) (hts (.static Lib.Math.min.name) (List.mem_of_getElem? (i := 7) rfl)) (hts (.initialized "java/lang/Math") (List.mem_of_getElem? (i := 8) rfl)) (hts (.code Lib.Math.min.name Lib.Math.min.code 2 (some .int)) (List.mem_of_getElem? (i := 9) rfl)) (Nat.le_of_ble_eq_true rfl) (Nat.le_of_ble_eq_true rfl) (Nat.le_of_ble_eq_true rfl) (Nat.le_of_ble_eq_true rfl) dX7_costTo_66 ?_
                refine lv_topi (fun y66 _ => ?_)
                refine zi_iast hx hb hK hP hD hS 1 0 rfl rfl (zB_in bx37f_v26_3 (by decide) (by decide)) dX7_costTo_69 (fun H locs g69 eg69 hP hD hS => ?_)
                replace hP : va_P D classes [(RO, .inr (7, oX7 FL aRO RO_lying)), ((aRO 3), .inl (cI, 8, .inl g69)), (FL, .inr (0, oX0 PL aFL FL_parting)), (PL, .inr (5, oX5 FO aPL PL_rooms PL_doors PL_things PL_draw PL_drawTold)), ((aFL 1), .inl (cI, 8, .inl FL_next)), ((aPL 2), .inl (cI, 8, .inl PL_creaks))] H := hP
                replace hD : va_D A [(RO, .inr (7, oX7 FL aRO RO_lying)), ((aRO 3), .inl (cI, 8, .inl g69)), (FL, .inr (0, oX0 PL aFL FL_parting)), (PL, .inr (5, oX5 FO aPL PL_rooms PL_doors PL_things PL_draw PL_drawTold)), ((aFL 1), .inl (cI, 8, .inl FL_next)), ((aPL 2), .inl (cI, 8, .inl PL_creaks))] := hD
                clear eg69
                exact j70 H locs ls g69 hP hD hS (lv_sub hl [0, 1, 2, 3] rfl)
        refine lv_istore_n (lv' := [(3, .int 0), (2, .int v18_2), (0, .ref RO), (1, .int x0)]) hx hb dX7_costTo_25 rfl hl (by decide) rfl (fun ls hl => ?_)
        exact j26 9 H locs ls 0 g18_aRO3 (zB_w (show zB 0 0 0 from ⟨by decide, by decide⟩) (by decide) (by decide)) (zM_ui (show zB 0 0 0 from ⟨by decide, by decide⟩) (by decide)) hP hD hS (lv_sub hl [0, 1, 2, 3] rfl)
  refine lv_istore_n (lv' := [(2, .int 0), (0, .ref RO), (1, .int x0)]) hx hb dX7_costTo_17 rfl hl (by decide) rfl (fun ls hl => ?_)
  exact j18 9 H locs ls 0 g15 (zB_w (show zB 0 0 0 from ⟨by decide, by decide⟩) (by decide) (by decide)) (zM_ui (show zB 0 0 0 from ⟨by decide, by decide⟩) (by decide)) hP hD hS (lv_sub hl [0, 1, 2] rfl)
set_option maxHeartbeats 4000000 in
set_option maxRecDepth 100000 in
theorem c_X7_layQuiet (l : Launch) (D : va_G) (cI : ClassId) (cB : ClassId) (cL : ClassId) (cZ : ClassId) (cG : ClassId) (RO : Nat) (x0 : Int32) (x1 : Int32) (FL : Nat) (aRO : Nat → Nat) (RO_lying : Int32) (PL : Nat) (aFL : Nat → Nat) (FL_parting : Int32) (FL_far : Nat → Int32) (RO_cost : Nat → Int32) (PL_rooms : Int32) (aPL : Nat → Nat) (PL_doors : Int32) (PL_things : Int32) (FO : Nat) (PL_draw : Int32) (PL_drawTold : Int32) (FL_next : Nat → Int32) (PL_creaks : Nat → Int32) (RO_lie : Nat → Int32) (sz : Nat) (b_x0 : zB x0 0 7) (b_x1 : zB x1 0 7) (b_RO_lying : zB RO_lying 0 8) (b_PL_rooms : zB PL_rooms 0 8) (b_PL_doors : zB PL_doors 0 12) (b_PL_things : zB PL_things 0 6) (s_FL_far_0 : zA FL_far 0 64 (-1) 7) : Met l yX7_layQuiet wsX7_layQuiet ({ frames := 3, cells := 0, slots := 0, locals := 69 }) (xp D [(cI, .int), (cB, .byte), (cL, .long), (cZ, .boolean), (cG, .array .int)] [(RO, .inr (7, oX7 FL aRO RO_lying)), (FL, .inr (0, oX0 PL aFL FL_parting)), ((aFL 2), .inl (cI, 64, .inl FL_far)), ((aRO 3), .inl (cI, 8, .inl RO_cost)), (PL, .inr (5, oX5 FO aPL PL_rooms PL_doors PL_things PL_draw PL_drawTold)), ((aFL 1), .inl (cI, 8, .inl FL_next)), ((aPL 2), .inl (cI, 8, .inl PL_creaks)), ((aRO 1), .inl (cI, 8, .inl RO_lie))] sz [] [.ref RO, .int x0, .int x1]) (va_Qi (fun (r : Int32) (_ : Unit) => True) (fun (_ : Unit) (t : State) => ∃ (nRO_lying : Int32), ∃ (nROcost : Nat → Int32), ∃ (nROlie : Nat → Int32), zB nRO_lying 0 8 ∧ xB D (va_A [(RO, .inr (7, oX7 FL aRO RO_lying)), (FL, .inr (0, oX0 PL aFL FL_parting)), ((aFL 2), .inl (cI, 64, .inl FL_far)), ((aRO 3), .inl (cI, 8, .inl RO_cost)), (PL, .inr (5, oX5 FO aPL PL_rooms PL_doors PL_things PL_draw PL_drawTold)), ((aFL 1), .inl (cI, 8, .inl FL_next)), ((aPL 2), .inl (cI, 8, .inl PL_creaks)), ((aRO 1), .inl (cI, 8, .inl RO_lie))] sz) [(RO, .inr (7, oX7 FL aRO nRO_lying)), (FL, .inr (0, oX0 PL aFL FL_parting)), ((aFL 2), .inl (cI, 64, .inl FL_far)), ((aRO 3), .inl (cI, 8, .inl nROcost)), (PL, .inr (5, oX5 FO aPL PL_rooms PL_doors PL_things PL_draw PL_drawTold)), ((aFL 1), .inl (cI, 8, .inl FL_next)), ((aPL 2), .inl (cI, 8, .inl PL_creaks)), ((aRO 1), .inl (cI, 8, .inl nROlie))] t) (va_A [(RO, .inr (7, oX7 FL aRO RO_lying)), (FL, .inr (0, oX0 PL aFL FL_parting)), ((aFL 2), .inl (cI, 64, .inl FL_far)), ((aRO 3), .inl (cI, 8, .inl RO_cost)), (PL, .inr (5, oX5 FO aPL PL_rooms PL_doors PL_things PL_draw PL_drawTold)), ((aFL 1), .inl (cI, 8, .inl FL_next)), ((aPL 2), .inl (cI, 8, .inl PL_creaks)), ((aRO 1), .inl (cI, 8, .inl RO_lie))] sz)) 0 0 (va_A [(RO, .inr (7, oX7 FL aRO RO_lying)), (FL, .inr (0, oX0 PL aFL FL_parting)), ((aFL 2), .inl (cI, 64, .inl FL_far)), ((aRO 3), .inl (cI, 8, .inl RO_cost)), (PL, .inr (5, oX5 FO aPL PL_rooms PL_doors PL_things PL_draw PL_drawTold)), ((aFL 1), .inl (cI, 8, .inl FL_next)), ((aPL 2), .inl (cI, 8, .inl PL_creaks)), ((aRO 1), .inl (cI, 8, .inl RO_lie))] sz) := by
  refine Met.ofW (cc := cX7_layQuiet) (maxL := 5) (ret := (some .int)) (by decide) rfl ?_
  intro p e s m args below meth c s₁ B hml hv
  obtain ⟨rfl, hsz, hP, hK, hD0, hNw⟩ := hv
  have hx := B.exec
  have hb := B.bytes
  have hr := B.returns
  have hts := atoms_spec (ws := wsX7_layQuiet) B.pre
  have hown : s.vm.findClass RX7 = some m.cls := findClass_of_methodNamed B.named
  have hlocks := B.notSynchronized
  clear B
  subst hsz
  have hD := hD0.self (sz := s.heap.size)
  clear hD0 hNw
  generalize hAe : va_A [(RO, .inr (7, oX7 FL aRO RO_lying)), (FL, .inr (0, oX0 PL aFL FL_parting)), ((aFL 2), .inl (cI, 64, .inl FL_far)), ((aRO 3), .inl (cI, 8, .inl RO_cost)), (PL, .inr (5, oX5 FO aPL PL_rooms PL_doors PL_things PL_draw PL_drawTold)), ((aFL 1), .inl (cI, 8, .inl FL_next)), ((aPL 2), .inl (cI, 8, .inl PL_creaks)), ((aRO 1), .inl (cI, 8, .inl RO_lie))] s.heap.size = A at hD ⊢
  have hA : ∀ q : Nat, s.heap.size ≤ q → A q := fun q h => by rw [← hAe]; exact Or.inr h
  have hS : va_S A s.heap s.heap [] := va_S.rf
  clear hAe
  obtain ⟨H, hH⟩ : ∃ H : Heap, H = s.heap := ⟨_, rfl⟩
  obtain ⟨locs, hlocs⟩ : ∃ L : List Loc, L = [] := ⟨_, rfl⟩
  replace hP : va_P D classes [(RO, .inr (7, oX7 FL aRO RO_lying)), (FL, .inr (0, oX0 PL aFL FL_parting)), ((aFL 2), .inl (cI, 64, .inl FL_far)), ((aRO 3), .inl (cI, 8, .inl RO_cost)), (PL, .inr (5, oX5 FO aPL PL_rooms PL_doors PL_things PL_draw PL_drawTold)), ((aFL 1), .inl (cI, 8, .inl FL_next)), ((aPL 2), .inl (cI, 8, .inl PL_creaks)), ((aRO 1), .inl (cI, 8, .inl RO_lie))] H := by rw [hH]; exact hP
  replace hS : va_S A s.heap H locs := by rw [hH, hlocs]; exact hS
  rw [← hH, ← hlocs]
  clear hlocs hH
  have hl := lv_entry ([.ref RO, .int x0, .int x1]) (n := 5) (Nat.le_of_ble_eq_true rfl)
  rw [lg_entry_eq]
  generalize (lg_sl ([.ref RO, .int x0, .int x1]) ++ List.replicate (5 - (lg_sl ([.ref RO, .int x0, .int x1])).length) Slot.unset).toArray = ls at hl ⊢
  replace hl : lv_has ls 5 [(0, .ref RO), (1, .int x0), (2, .int x1)] := hl
  refine zz_abs (R := ({ frames := 3, cells := 0, slots := 0, locals := 69 } : Room)) (fun Q up => ?_)
  refine lv_aload_n hx hb dX7_layQuiet_0 rfl (lv_at hl 0 rfl) ?_
  refine va_get (D := D) (ci := 7) (v := .ref FL) (C := RX7) (T := TX7) (N := 5) hx hb hts iw_X7_layQuiet_X7 hown hK hP 0 rfl rfl 0 (by decide) (hts (.fieldLink RX7 21 "SoldHouse$Routes" "floor" "LSoldHouse$Floor;") (List.mem_of_getElem? (i := 1) rfl)) (fun _ h9 => h9) rfl dX7_layQuiet_1 ?_
  refine lv_iload_n hx hb dX7_layQuiet_4 rfl (lv_at hl 1 rfl) ?_
  refine lv_iload_n hx hb dX7_layQuiet_5 rfl (lv_at hl 2 rfl) ?_
  have hPc := hP.sub (ws' := [(FL, .inr (0, oX0 PL aFL FL_parting)), ((aFL 2), .inl (cI, 64, .inl FL_far))]) [1, 2] rfl
  refine vp_callSi (va_runV (As := [.int x0, .int x1]) (rest := []) ⟨hx, hb, hml, hown, hts⟩ (c_X0_farOf l D cI cB cL cZ cG FL x0 x1 PL aFL FL_parting FL_far b_x0 b_x1 s_FL_far_0) (cwV 2 hts gX7_layQuiet_X0_farOf rfl rfl rfl (by decide +kernel) ⟨Nat.le_of_ble_eq_true rfl, Nat.le_of_ble_eq_true rfl⟩) ⟨xr_blind, va_recv hK hP (ci := 0) (q0 := 1) rfl rfl, fun U hU hW => xr_mk hU hW hPc hK⟩ rfl rfl hl.1 rfl (lv_room (Nat.le_of_ble_eq_true rfl)) dX7_layQuiet_6 ⟨Nat.le_of_ble_eq_true rfl, Nat.le_of_ble_eq_true rfl⟩).run (fun r6 hr6 => ?_)
  clear hPc
  refine lv_iconst (v := (-1)) hx hb dX7_layQuiet_9 (by decide) ?_
  refine lv_icmp_ne (tgt := 15) hx hb dX7_layQuiet_10 (by decide) (fun c10 => ?_) (fun c10 => ?_)
  · have bn10t_r6 : zB r6 0 7 := zB_neL c10 hr6 (show zB (-1) (-1) (-1) from ⟨by decide, by decide⟩) (by decide)
    refine lv_aload_n hx hb dX7_layQuiet_15 rfl (lv_at hl 0 rfl) ?_
    refine lv_iload_n hx hb dX7_layQuiet_16 rfl (lv_at hl 2 rfl) ?_
    have hPc := hP.sub (ws' := [(RO, .inr (7, oX7 FL aRO RO_lying)), ((aRO 3), .inl (cI, 8, .inl RO_cost)), (FL, .inr (0, oX0 PL aFL FL_parting)), (PL, .inr (5, oX5 FO aPL PL_rooms PL_doors PL_things PL_draw PL_drawTold)), ((aFL 1), .inl (cI, 8, .inl FL_next)), ((aPL 2), .inl (cI, 8, .inl PL_creaks))]) [0, 3, 1, 4, 5, 6] rfl
    have hDc := hD.sub (ws' := [(RO, .inr (7, oX7 FL aRO RO_lying)), ((aRO 3), .inl (cI, 8, .inl RO_cost)), (FL, .inr (0, oX0 PL aFL FL_parting)), (PL, .inr (5, oX5 FO aPL PL_rooms PL_doors PL_things PL_draw PL_drawTold)), ((aFL 1), .inl (cI, 8, .inl FL_next)), ((aPL 2), .inl (cI, 8, .inl PL_creaks))]) [0, 3, 1, 4, 5, 6] (by decide) rfl
    have hFc := va_free (wc := [(RO, .inr (7, oX7 FL aRO RO_lying)), ((aRO 3), .inl (cI, 8, .inl RO_cost)), (FL, .inr (0, oX0 PL aFL FL_parting)), (PL, .inr (5, oX5 FO aPL PL_rooms PL_doors PL_things PL_draw PL_drawTold)), ((aFL 1), .inl (cI, 8, .inl FL_next)), ((aPL 2), .inl (cI, 8, .inl PL_creaks))]) hD hS hA [0, 3, 1, 4, 5, 6] rfl
    refine va_callv (va_runV (As := [.int x1]) (rest := []) ⟨hx, hb, hml, hown, hts⟩ (c_X7_costTo l D cI cB cL cZ cG RO x1 FL aRO RO_lying RO_cost PL aFL FL_parting PL_rooms aPL PL_doors PL_things FO PL_draw PL_drawTold FL_next PL_creaks H.size b_x1 b_RO_lying b_PL_rooms b_PL_doors b_PL_things) (cwV 1 hts gX7_layQuiet_X7_costTo rfl rfl rfl (by decide +kernel) ⟨Nat.le_of_ble_eq_true rfl, Nat.le_of_ble_eq_true rfl⟩) ⟨xp_blind, va_recv hK hP (ci := 7) (q0 := 0) rfl rfl, fun U hU hW => xp_mk hU hW hPc hK hDc xNw_nil⟩ rfl rfl hl.1 rfl (lv_room (Nat.le_of_ble_eq_true rfl)) dX7_layQuiet_17 ⟨Nat.le_of_ble_eq_true rfl, Nat.le_of_ble_eq_true rfl⟩) hS (fun q _ h => hFc q h) hFc (fun u9 t9 H1 locs ht9 hvm9 hr17 hB9 hz9 hk9 hS => ?_)
    obtain ⟨o17_nROcost, hP1, hD1⟩ := hB9
    rw [ht9] at hP1
    obtain ⟨hP, hD⟩ := va_join (wr := [((aFL 2), .inl (cI, 64, .inl FL_far)), ((aRO 1), .inl (cI, 8, .inl RO_lie))]) (w1 := [(RO, .inr (7, oX7 FL aRO RO_lying)), ((aRO 3), .inl (cI, 8, .inl o17_nROcost)), (FL, .inr (0, oX0 PL aFL FL_parting)), (PL, .inr (5, oX5 FO aPL PL_rooms PL_doors PL_things PL_draw PL_drawTold)), ((aFL 1), .inl (cI, 8, .inl FL_next)), ((aPL 2), .inl (cI, 8, .inl PL_creaks))]) hP hD [0, 3, 1, 4, 5, 6] [2, 7] rfl rfl (by decide) (by decide) hk9 hFc hP1 hD1
    clear hz9 hPc hDc hP1 hD1 hk9 hFc ht9 hvm9 u9 t9
    generalize H1 = H at hP hS ⊢
    replace hP : va_P D classes [(RO, .inr (7, oX7 FL aRO RO_lying)), (FL, .inr (0, oX0 PL aFL FL_parting)), ((aFL 2), .inl (cI, 64, .inl FL_far)), ((aRO 3), .inl (cI, 8, .inl o17_nROcost)), (PL, .inr (5, oX5 FO aPL PL_rooms PL_doors PL_things PL_draw PL_drawTold)), ((aFL 1), .inl (cI, 8, .inl FL_next)), ((aPL 2), .inl (cI, 8, .inl PL_creaks)), ((aRO 1), .inl (cI, 8, .inl RO_lie))] H := hP.sub [2, 4, 0, 3, 5, 6, 7, 1] rfl
    replace hD : va_D A [(RO, .inr (7, oX7 FL aRO RO_lying)), (FL, .inr (0, oX0 PL aFL FL_parting)), ((aFL 2), .inl (cI, 64, .inl FL_far)), ((aRO 3), .inl (cI, 8, .inl o17_nROcost)), (PL, .inr (5, oX5 FO aPL PL_rooms PL_doors PL_things PL_draw PL_drawTold)), ((aFL 1), .inl (cI, 8, .inl FL_next)), ((aPL 2), .inl (cI, 8, .inl PL_creaks)), ((aRO 1), .inl (cI, 8, .inl RO_lie))] := hD.sub [2, 4, 0, 3, 5, 6, 7, 1] (by decide) rfl
    refine lv_aload_n hx hb dX7_layQuiet_20 rfl (lv_at hl 0 rfl) ?_
    refine lv_iload_n hx hb dX7_layQuiet_21 rfl (lv_at hl 1 rfl) ?_
    have hPc := hP.sub (ws' := [(RO, .inr (7, oX7 FL aRO RO_lying)), ((aRO 1), .inl (cI, 8, .inl RO_lie))]) [0, 7] rfl
    have hDc := hD.sub (ws' := [(RO, .inr (7, oX7 FL aRO RO_lying)), ((aRO 1), .inl (cI, 8, .inl RO_lie))]) [0, 7] (by decide) rfl
    have hFc := va_free (wc := [(RO, .inr (7, oX7 FL aRO RO_lying)), ((aRO 1), .inl (cI, 8, .inl RO_lie))]) hD hS hA [0, 7] rfl
    refine va_callv (va_runV (As := [.int x0]) (rest := []) ⟨hx, hb, hml, hown, hts⟩ (c_X7_lay l D cI cB cL cZ cG RO x0 FL aRO RO_lying RO_lie H.size b_RO_lying) (cwV 1 hts gX7_layQuiet_X7_lay rfl rfl rfl (by decide +kernel) ⟨Nat.le_of_ble_eq_true rfl, Nat.le_of_ble_eq_true rfl⟩) ⟨xp_blind, va_recv hK hP (ci := 7) (q0 := 0) rfl rfl, fun U hU hW => xp_mk hU hW hPc hK hDc xNw_nil⟩ rfl rfl hl.1 rfl (lv_room (Nat.le_of_ble_eq_true rfl)) dX7_layQuiet_22 ⟨Nat.le_of_ble_eq_true rfl, Nat.le_of_ble_eq_true rfl⟩) hS (fun q _ h => hFc q h) hFc (fun u9 t9 H1 locs ht9 hvm9 hr22 hB9 hz9 hk9 hS => ?_)
    obtain ⟨o22_nRO_lying, o22_nROlie, bo22_nRO_lying, hP1, hD1⟩ := hB9
    rw [ht9] at hP1
    obtain ⟨hP, hD⟩ := va_join (wr := [(FL, .inr (0, oX0 PL aFL FL_parting)), ((aFL 2), .inl (cI, 64, .inl FL_far)), ((aRO 3), .inl (cI, 8, .inl o17_nROcost)), (PL, .inr (5, oX5 FO aPL PL_rooms PL_doors PL_things PL_draw PL_drawTold)), ((aFL 1), .inl (cI, 8, .inl FL_next)), ((aPL 2), .inl (cI, 8, .inl PL_creaks))]) (w1 := [(RO, .inr (7, oX7 FL aRO o22_nRO_lying)), ((aRO 1), .inl (cI, 8, .inl o22_nROlie))]) hP hD [0, 7] [1, 2, 3, 4, 5, 6] rfl rfl (by decide) (by decide) hk9 hFc hP1 hD1
    clear hz9 hPc hDc hP1 hD1 hk9 hFc ht9 hvm9 u9 t9
    generalize H1 = H at hP hS ⊢
    replace hP : va_P D classes [(RO, .inr (7, oX7 FL aRO o22_nRO_lying)), (FL, .inr (0, oX0 PL aFL FL_parting)), ((aFL 2), .inl (cI, 64, .inl FL_far)), ((aRO 3), .inl (cI, 8, .inl o17_nROcost)), (PL, .inr (5, oX5 FO aPL PL_rooms PL_doors PL_things PL_draw PL_drawTold)), ((aFL 1), .inl (cI, 8, .inl FL_next)), ((aPL 2), .inl (cI, 8, .inl PL_creaks)), ((aRO 1), .inl (cI, 8, .inl o22_nROlie))] H := hP.sub [6, 0, 1, 2, 3, 4, 5, 7] rfl
    replace hD : va_D A [(RO, .inr (7, oX7 FL aRO o22_nRO_lying)), (FL, .inr (0, oX0 PL aFL FL_parting)), ((aFL 2), .inl (cI, 64, .inl FL_far)), ((aRO 3), .inl (cI, 8, .inl o17_nROcost)), (PL, .inr (5, oX5 FO aPL PL_rooms PL_doors PL_things PL_draw PL_drawTold)), ((aFL 1), .inl (cI, 8, .inl FL_next)), ((aPL 2), .inl (cI, 8, .inl PL_creaks)), ((aRO 1), .inl (cI, 8, .inl o22_nROlie))] := hD.sub [6, 0, 1, 2, 3, 4, 5, 7] (by decide) rfl
    refine lv_iload_n hx hb dX7_layQuiet_25 rfl (lv_at hl 1 rfl) ?_
    refine lv_istore_n (lv' := [(3, .int x0), (0, .ref RO), (1, .int x0), (2, .int x1)]) hx hb dX7_layQuiet_26 rfl hl (by decide) rfl (fun ls hl => ?_)
    refine lv_iconst (v := 0) hx hb dX7_layQuiet_27 (by decide) ?_
    have j30 : ∀ (n30 : Nat) (H : Heap) (locs : List Loc) (ls : Array Slot) (v30_4 : Int32) (v30_3 : Int32) (w30_RO_2 : Int32) (g30_aRO1 : Nat → Int32), zB v30_4 0 8 → zB v30_3 0 7 → zB w30_RO_2 1 8 → zA FL_far 0 64 (-1) 7 → (8 + 1 - v30_4.toInt) ≤ (n30 : Int) → va_P D classes [(RO, .inr (7, oX7 FL aRO w30_RO_2)), (FL, .inr (0, oX0 PL aFL FL_parting)), ((aFL 2), .inl (cI, 64, .inl FL_far)), ((aRO 3), .inl (cI, 8, .inl o17_nROcost)), (PL, .inr (5, oX5 FO aPL PL_rooms PL_doors PL_things PL_draw PL_drawTold)), ((aFL 1), .inl (cI, 8, .inl FL_next)), ((aPL 2), .inl (cI, 8, .inl PL_creaks)), ((aRO 1), .inl (cI, 8, .inl g30_aRO1))] H → va_D A [(RO, .inr (7, oX7 FL aRO w30_RO_2)), (FL, .inr (0, oX0 PL aFL FL_parting)), ((aFL 2), .inl (cI, 64, .inl FL_far)), ((aRO 3), .inl (cI, 8, .inl o17_nROcost)), (PL, .inr (5, oX5 FO aPL PL_rooms PL_doors PL_things PL_draw PL_drawTold)), ((aFL 1), .inl (cI, 8, .inl FL_next)), ((aPL 2), .inl (cI, 8, .inl PL_creaks)), ((aRO 1), .inl (cI, 8, .inl g30_aRO1))] → va_S A s.heap H locs → lv_has ls 5 [(4, .int v30_4), (3, .int v30_3), (0, .ref RO), (1, .int x0), (2, .int x1)] → W p l e ({ frames := 3, cells := 0, slots := 0, locals := 69 } : Room) s m ([.ref RO, .int x0, .int x1] : List Value).toArray below meth c H locs 0 0 Q (F0 m 30 ls []) := by
      intro n30
      induction n30 with
      | zero => intro H locs ls v30_4 v30_3 w30_RO_2 g30_aRO1 bv30_4_k30 bv30_3_k30 bw30_RO_2_k30 sFL_far_0_k30 hm30 hP hD hS hl; exact zM_u0 bv30_4_k30 hm30
      | succ n30 ih30 =>
        intro H locs ls v30_4 v30_3 w30_RO_2 g30_aRO1 bv30_4_k30 bv30_3_k30 bw30_RO_2_k30 sFL_far_0_k30 hm30 hP hD hS hl
        refine lv_iload hx hb dX7_layQuiet_30 (lv_at hl 0 rfl) ?_
        refine lv_bipush (v := 8) hx hb dX7_layQuiet_32 (by decide) ?_
        have j59 : ∀ (H : Heap) (locs : List Loc) (ls : Array Slot), zA FL_far 0 64 (-1) 7 → va_P D classes [(RO, .inr (7, oX7 FL aRO w30_RO_2)), (FL, .inr (0, oX0 PL aFL FL_parting)), ((aFL 2), .inl (cI, 64, .inl FL_far)), ((aRO 3), .inl (cI, 8, .inl o17_nROcost)), (PL, .inr (5, oX5 FO aPL PL_rooms PL_doors PL_things PL_draw PL_drawTold)), ((aFL 1), .inl (cI, 8, .inl FL_next)), ((aPL 2), .inl (cI, 8, .inl PL_creaks)), ((aRO 1), .inl (cI, 8, .inl g30_aRO1))] H → va_D A [(RO, .inr (7, oX7 FL aRO w30_RO_2)), (FL, .inr (0, oX0 PL aFL FL_parting)), ((aFL 2), .inl (cI, 64, .inl FL_far)), ((aRO 3), .inl (cI, 8, .inl o17_nROcost)), (PL, .inr (5, oX5 FO aPL PL_rooms PL_doors PL_things PL_draw PL_drawTold)), ((aFL 1), .inl (cI, 8, .inl FL_next)), ((aPL 2), .inl (cI, 8, .inl PL_creaks)), ((aRO 1), .inl (cI, 8, .inl g30_aRO1))] → va_S A s.heap H locs → lv_has ls 5 [(4, .int v30_4), (3, .int v30_3), (0, .ref RO), (1, .int x0), (2, .int x1)] → W p l e ({ frames := 3, cells := 0, slots := 0, locals := 69 } : Room) s m ([.ref RO, .int x0, .int x1] : List Value).toArray below meth c H locs 0 0 Q (F0 m 59 ls []) := by
          intro H locs ls sFL_far_0_k59 hP hD hS hl
          refine lv_aload_n hx hb dX7_layQuiet_59 rfl (lv_at hl 2 rfl) ?_
          refine va_get (D := D) (ci := 7) (v := .ref (aRO 3)) (C := RX7) (T := TX7) (N := 5) hx hb hts iw_X7_layQuiet_X7 hown hK hP 0 rfl rfl 3 (by decide) (hts (.fieldLink RX7 15 "SoldHouse$Routes" "cost" "[I") (List.mem_of_getElem? (i := 2) rfl)) (fun _ h9 => h9) rfl dX7_layQuiet_60 ?_
          refine lv_iload_n hx hb dX7_layQuiet_63 rfl (lv_at hl 3 rfl) ?_
          refine va_iald hx hb hK hP 3 0 rfl rfl (zB_in b_x0 (by decide) (by decide)) dX7_layQuiet_64 ?_
          refine lv_topi (fun y64 _ => ?_)
          refine lv_bipush (v := 16) hx hb dX7_layQuiet_65 (by decide) ?_
          refine lv_idiv hx hb dX7_layQuiet_67 (by decide) ?_
          refine lv_topi (fun y67 _ => ?_)
          exact up _ _ _ (W.iret (v := y67) hx hb hr (fun t ht hW => ⟨⟨y67, (), rfl, trivial, ⟨w30_RO_2, o17_nROcost, g30_aRO1, (zB_w bw30_RO_2_k30 (by decide) (by decide)), by rw [ht]; exact hP, hD⟩⟩, hS.F ht⟩) hS.2.2 dX7_layQuiet_68)
        refine lv_icmp_ge (tgt := 59) hx hb dX7_layQuiet_34 (by decide) (fun c34 => ?_) (fun c34 => ?_)
        · have by34t_v30_4 : zB v30_4 8 8 := zB_lev (ze c34) (show zB 8 8 8 from ⟨by decide, by decide⟩) bv30_4_k30 (by decide)
          exact j59 H locs ls sFL_far_0_k30 hP hD hS (lv_sub hl [0, 1, 2, 3, 4] rfl)
        · have bx34f_v30_4 : zB v30_4 0 7 := zB_ltu (zf c34) bv30_4_k30 (show zB 8 8 8 from ⟨by decide, by decide⟩) (by decide)
          refine lv_iload_n hx hb dX7_layQuiet_37 rfl (lv_at hl 1 rfl) ?_
          refine lv_iload_n hx hb dX7_layQuiet_38 rfl (lv_at hl 4 rfl) ?_
          refine lv_icmp_eq (tgt := 59) hx hb dX7_layQuiet_39 (by decide) (fun c39 => ?_) (fun c39 => ?_)
          · exact j59 H locs ls sFL_far_0_k30 hP hD hS (lv_sub hl [0, 1, 2, 3, 4] rfl)
          · refine lv_aload_n hx hb dX7_layQuiet_42 rfl (lv_at hl 2 rfl) ?_
            refine lv_iload_n hx hb dX7_layQuiet_43 rfl (lv_at hl 1 rfl) ?_
            have hPc := hP.sub (ws' := [(RO, .inr (7, oX7 FL aRO w30_RO_2)), (FL, .inr (0, oX0 PL aFL FL_parting)), (PL, .inr (5, oX5 FO aPL PL_rooms PL_doors PL_things PL_draw PL_drawTold)), ((aFL 1), .inl (cI, 8, .inl FL_next)), ((aRO 3), .inl (cI, 8, .inl o17_nROcost)), ((aPL 2), .inl (cI, 8, .inl PL_creaks))]) [0, 1, 4, 5, 3, 6] rfl
            refine vp_callSi (va_runV (As := [.int v30_3]) (rest := []) ⟨hx, hb, hml, hown, hts⟩ (c_X7_nextOnQuiet l D cI cB cL cZ cG RO v30_3 FL aRO w30_RO_2 PL aFL FL_parting PL_rooms aPL PL_doors PL_things FO PL_draw PL_drawTold FL_next o17_nROcost PL_creaks bv30_3_k30 (zB_w bw30_RO_2_k30 (by decide) (by decide)) b_PL_rooms b_PL_doors b_PL_things) (cwV 1 hts gX7_layQuiet_X7_nextOnQuiet rfl rfl rfl (by decide +kernel) ⟨Nat.le_of_ble_eq_true rfl, Nat.le_of_ble_eq_true rfl⟩) ⟨xr_blind, va_recv hK hP (ci := 7) (q0 := 0) rfl rfl, fun U hU hW => xr_mk hU hW hPc hK⟩ rfl rfl hl.1 rfl (lv_room (Nat.le_of_ble_eq_true rfl)) dX7_layQuiet_44 ⟨Nat.le_of_ble_eq_true rfl, Nat.le_of_ble_eq_true rfl⟩).run (fun r44 hr44 => ?_)
            clear hPc
            refine lv_istore_n (lv' := [(3, .int r44), (4, .int v30_4), (0, .ref RO), (1, .int x0), (2, .int x1)]) hx hb dX7_layQuiet_47 rfl hl (by decide) rfl (fun ls hl => ?_)
            refine lv_aload_n hx hb dX7_layQuiet_48 rfl (lv_at hl 2 rfl) ?_
            refine lv_iload_n hx hb dX7_layQuiet_49 rfl (lv_at hl 0 rfl) ?_
            have hPc := hP.sub (ws' := [(RO, .inr (7, oX7 FL aRO w30_RO_2)), ((aRO 1), .inl (cI, 8, .inl g30_aRO1))]) [0, 7] rfl
            have hDc := hD.sub (ws' := [(RO, .inr (7, oX7 FL aRO w30_RO_2)), ((aRO 1), .inl (cI, 8, .inl g30_aRO1))]) [0, 7] (by decide) rfl
            have hFc := va_free (wc := [(RO, .inr (7, oX7 FL aRO w30_RO_2)), ((aRO 1), .inl (cI, 8, .inl g30_aRO1))]) hD hS hA [0, 7] rfl
            refine va_callv (va_runV (As := [.int r44]) (rest := []) ⟨hx, hb, hml, hown, hts⟩ (c_X7_lay l D cI cB cL cZ cG RO r44 FL aRO w30_RO_2 g30_aRO1 H.size (zB_w bw30_RO_2_k30 (by decide) (by decide))) (cwV 1 hts gX7_layQuiet_X7_lay rfl rfl rfl (by decide +kernel) ⟨Nat.le_of_ble_eq_true rfl, Nat.le_of_ble_eq_true rfl⟩) ⟨xp_blind, va_recv hK hP (ci := 7) (q0 := 0) rfl rfl, fun U hU hW => xp_mk hU hW hPc hK hDc xNw_nil⟩ rfl rfl hl.1 rfl (lv_room (Nat.le_of_ble_eq_true rfl)) dX7_layQuiet_50 ⟨Nat.le_of_ble_eq_true rfl, Nat.le_of_ble_eq_true rfl⟩) hS (fun q _ h => hFc q h) hFc (fun u9 t9 H1 locs ht9 hvm9 hr50 hB9 hz9 hk9 hS => ?_)
            obtain ⟨o50_nRO_lying, o50_nROlie, bo50_nRO_lying, hP1, hD1⟩ := hB9
            rw [ht9] at hP1
            obtain ⟨hP, hD⟩ := va_join (wr := [(FL, .inr (0, oX0 PL aFL FL_parting)), ((aFL 2), .inl (cI, 64, .inl FL_far)), ((aRO 3), .inl (cI, 8, .inl o17_nROcost)), (PL, .inr (5, oX5 FO aPL PL_rooms PL_doors PL_things PL_draw PL_drawTold)), ((aFL 1), .inl (cI, 8, .inl FL_next)), ((aPL 2), .inl (cI, 8, .inl PL_creaks))]) (w1 := [(RO, .inr (7, oX7 FL aRO o50_nRO_lying)), ((aRO 1), .inl (cI, 8, .inl o50_nROlie))]) hP hD [0, 7] [1, 2, 3, 4, 5, 6] rfl rfl (by decide) (by decide) hk9 hFc hP1 hD1
            clear hz9 hPc hDc hP1 hD1 hk9 hFc ht9 hvm9 u9 t9
            generalize H1 = H at hP hS ⊢
            replace hP : va_P D classes [(RO, .inr (7, oX7 FL aRO o50_nRO_lying)), (FL, .inr (0, oX0 PL aFL FL_parting)), ((aFL 2), .inl (cI, 64, .inl FL_far)), ((aRO 3), .inl (cI, 8, .inl o17_nROcost)), (PL, .inr (5, oX5 FO aPL PL_rooms PL_doors PL_things PL_draw PL_drawTold)), ((aFL 1), .inl (cI, 8, .inl FL_next)), ((aPL 2), .inl (cI, 8, .inl PL_creaks)), ((aRO 1), .inl (cI, 8, .inl o50_nROlie))] H := hP.sub [6, 0, 1, 2, 3, 4, 5, 7] rfl
            replace hD : va_D A [(RO, .inr (7, oX7 FL aRO o50_nRO_lying)), (FL, .inr (0, oX0 PL aFL FL_parting)), ((aFL 2), .inl (cI, 64, .inl FL_far)), ((aRO 3), .inl (cI, 8, .inl o17_nROcost)), (PL, .inr (5, oX5 FO aPL PL_rooms PL_doors PL_things PL_draw PL_drawTold)), ((aFL 1), .inl (cI, 8, .inl FL_next)), ((aPL 2), .inl (cI, 8, .inl PL_creaks)), ((aRO 1), .inl (cI, 8, .inl o50_nROlie))] := hD.sub [6, 0, 1, 2, 3, 4, 5, 7] (by decide) rfl
            obtain ⟨y53, by53, ry53, ey53⟩ := zi_inc (x := v30_4) (k := 1) (a := 1) (b := 8) bx34f_v30_4 (by decide) (by decide) (by decide) (by decide) (by decide)
            refine lv_iinc (v := y53) (lv' := [(4, .int y53), (3, .int r44), (0, .ref RO), (1, .int x0), (2, .int x1)]) hx hb dX7_layQuiet_53 hl (k := 1) rfl ey53 (by decide) rfl (fun ls hl => ?_)
            refine lv_goto (tgt := 30) hx hb dX7_layQuiet_56 (by decide) ?_
            exact ih30 H locs ls y53 r44 o50_nRO_lying o50_nROlie (zB_w by53 (by decide) (by decide)) hr44 bo50_nRO_lying sFL_far_0_k30 (zM_us (k := 1) hm30 ry53 (by decide)) hP hD hS (lv_sub hl [0, 1, 2, 3, 4] rfl)
    refine lv_istore (lv' := [(4, .int 0), (3, .int x0), (0, .ref RO), (1, .int x0), (2, .int x1)]) hx hb dX7_layQuiet_28 hl (by decide) rfl (fun ls hl => ?_)
    exact j30 9 H locs ls 0 x0 o22_nRO_lying o22_nROlie (zB_w (show zB 0 0 0 from ⟨by decide, by decide⟩) (by decide) (by decide)) b_x0 bo22_nRO_lying s_FL_far_0 (zM_ui (show zB 0 0 0 from ⟨by decide, by decide⟩) (by decide)) hP hD hS (lv_sub hl [0, 1, 2, 3, 4] rfl)
  · have be10f_r6 : zB r6 (-1) (-1) := zB_eq c10 hr6 (show zB (-1) (-1) (-1) from ⟨by decide, by decide⟩) (by decide) (by decide)
    refine lv_iconst (v := (-1)) hx hb dX7_layQuiet_13 (by decide) ?_
    exact up _ _ _ (W.iret (v := (-1)) hx hb hr (fun t ht hW => ⟨⟨(-1), (), rfl, trivial, ⟨RO_lying, RO_cost, RO_lie, b_RO_lying, by rw [ht]; exact hP, hD⟩⟩, hS.F ht⟩) hS.2.2 dX7_layQuiet_14)
set_option maxHeartbeats 4000000 in
set_option maxRecDepth 100000 in
theorem c_X7_waysInto (l : Launch) (D : va_G) (cI : ClassId) (cB : ClassId) (cL : ClassId) (cZ : ClassId) (cG : ClassId) (RO : Nat) (x0 : Int32) (x1 : Int32) (FL : Nat) (aRO : Nat → Nat) (RO_lying : Int32) (PL : Nat) (aFL : Nat → Nat) (FL_parting : Int32) (PL_rooms : Int32) (aPL : Nat → Nat) (PL_doors : Int32) (PL_things : Int32) (FO : Nat) (PL_draw : Int32) (PL_drawTold : Int32) (FL_far : Nat → Int32) (FL_next : Nat → Int32) (RO_cost : Nat → Int32) (b_x0 : zB x0 0 7) (b_x1 : zB x1 0 7) (b_RO_lying : zB RO_lying 0 8) (b_PL_rooms : zB PL_rooms 0 8) (b_PL_doors : zB PL_doors 0 12) (b_PL_things : zB PL_things 0 6) (s_FL_far_0 : zA FL_far 0 64 (-1) 7) : Met l yX7_waysInto wsX7_waysInto ({ frames := 1, cells := 0, slots := 0, locals := 22 }) (xr D [(cI, .int), (cB, .byte), (cL, .long), (cZ, .boolean), (cG, .array .int)] [(RO, .inr (7, oX7 FL aRO RO_lying)), (FL, .inr (0, oX0 PL aFL FL_parting)), (PL, .inr (5, oX5 FO aPL PL_rooms PL_doors PL_things PL_draw PL_drawTold)), ((aFL 2), .inl (cI, 64, .inl FL_far)), ((aFL 1), .inl (cI, 8, .inl FL_next)), ((aRO 3), .inl (cI, 8, .inl RO_cost))] [.ref RO, .int x0, .int x1]) (vp_Si (fun r => True)) 0 0 (fun _ => False) := by
  refine Met.ofW (cc := cX7_waysInto) (maxL := 6) (ret := (some .int)) (by decide) rfl ?_
  intro p e s m args below meth c s₁ B hml hv
  obtain ⟨rfl, hP, hK⟩ := hv
  have hx := B.exec
  have hb := B.bytes
  have hr := B.returns
  have hts := atoms_spec (ws := wsX7_waysInto) B.pre
  have hown : s.vm.findClass RX7 = some m.cls := findClass_of_methodNamed B.named
  have hlocks := B.notSynchronized
  clear B
  have hl := lv_entry ([.ref RO, .int x0, .int x1]) (n := 6) (Nat.le_of_ble_eq_true rfl)
  rw [lg_entry_eq]
  generalize (lg_sl ([.ref RO, .int x0, .int x1]) ++ List.replicate (6 - (lg_sl ([.ref RO, .int x0, .int x1])).length) Slot.unset).toArray = ls at hl ⊢
  replace hl : lv_has ls 6 [(0, .ref RO), (1, .int x0), (2, .int x1)] := hl
  refine zz_abs (R := ({ frames := 1, cells := 0, slots := 0, locals := 22 } : Room)) (fun Q up => ?_)
  refine lv_iconst (v := 0) hx hb dX7_waysInto_0 (by decide) ?_
  refine lv_istore_n (lv' := [(3, .int 0), (0, .ref RO), (1, .int x0), (2, .int x1)]) hx hb dX7_waysInto_1 rfl hl (by decide) rfl (fun ls hl => ?_)
  refine lv_iconst (v := 0) hx hb dX7_waysInto_2 (by decide) ?_
  have j5 : ∀ (n5 : Nat) (ls : Array Slot) (v5_4 : Int32) (v5_3 : Int32), zB v5_4 0 8 → zA FL_far 0 64 (-1) 7 → (8 + 1 - v5_4.toInt) ≤ (n5 : Int) → lv_has ls 6 [(4, .int v5_4), (3, .int v5_3), (0, .ref RO), (1, .int x0), (2, .int x1)] → W p l e ({ frames := 1, cells := 0, slots := 0, locals := 22 } : Room) s m ([.ref RO, .int x0, .int x1] : List Value).toArray below meth c s.heap [] 0 0 Q (F0 m 5 ls []) := by
    intro n5
    induction n5 with
    | zero => intro ls v5_4 v5_3 bv5_4_k5 sFL_far_0_k5 hm5 hl; exact zM_u0 bv5_4_k5 hm5
    | succ n5 ih5 =>
      intro ls v5_4 v5_3 bv5_4_k5 sFL_far_0_k5 hm5 hl
      refine lv_iload hx hb dX7_waysInto_5 (lv_at hl 0 rfl) ?_
      refine lv_aload_n hx hb dX7_waysInto_7 rfl (lv_at hl 2 rfl) ?_
      refine va_get (D := D) (ci := 7) (v := .ref FL) (C := RX7) (T := TX7) (N := 5) hx hb hts iw_X7_waysInto_X7 hown hK hP 0 rfl rfl 0 (by decide) (hts (.fieldLink RX7 21 "SoldHouse$Routes" "floor" "LSoldHouse$Floor;") (List.mem_of_getElem? (i := 1) rfl)) (fun _ h9 => h9) rfl dX7_waysInto_8 ?_
      refine va_get (D := D) (ci := 0) (v := .ref PL) (C := RX0) (T := TX0) (N := 5) hx hb hts iw_X7_waysInto_X0 hown hK hP 1 rfl rfl 0 (by decide) (hts (.fieldLink RX7 52 "SoldHouse$Floor" "plan" "LSoldHouse$Plan;") (List.mem_of_getElem? (i := 2) rfl)) (fun _ h9 => h9) rfl dX7_waysInto_11 ?_
      refine va_get (D := D) (ci := 5) (v := .int PL_rooms) (C := RX5) (T := TX5) (N := 16) hx hb hts iw_X7_waysInto_X5 hown hK hP 2 rfl rfl 0 (by decide) (hts (.fieldLink RX7 56 "SoldHouse$Plan" "rooms" "I") (List.mem_of_getElem? (i := 3) rfl)) (fun _ h9 => h9) rfl dX7_waysInto_14 ?_
      refine lv_icmp_ge (tgt := 90) hx hb dX7_waysInto_17 (by decide) (fun c17 => ?_) (fun c17 => ?_)
      · refine lv_iload_n hx hb dX7_waysInto_90 rfl (lv_at hl 1 rfl) ?_
        exact up _ _ _ (W.iret (v := v5_3) hx hb hr (fun t ht hW => ⟨v5_3, rfl, trivial, ht⟩) (fun q hq => by cases hq) dX7_waysInto_91)
      · have bx17f_v5_4 : zB v5_4 0 7 := zB_ltu (zf c17) bv5_4_k5 b_PL_rooms (by decide)
        have by17f_PL_rooms : zB PL_rooms 1 8 := zB_ltv (zf c17) bx17f_v5_4 b_PL_rooms (by decide)
        refine lv_aload_n hx hb dX7_waysInto_20 rfl (lv_at hl 2 rfl) ?_
        refine va_get (D := D) (ci := 7) (v := .ref FL) (C := RX7) (T := TX7) (N := 5) hx hb hts iw_X7_waysInto_X7 hown hK hP 0 rfl rfl 0 (by decide) (hts (.fieldLink RX7 21 "SoldHouse$Routes" "floor" "LSoldHouse$Floor;") (List.mem_of_getElem? (i := 1) rfl)) (fun _ h9 => h9) rfl dX7_waysInto_21 ?_
        refine lv_iload_n hx hb dX7_waysInto_24 rfl (lv_at hl 3 rfl) ?_
        refine lv_iload hx hb dX7_waysInto_25 (lv_at hl 0 rfl) ?_
        have hPc := hP.sub (ws' := [(FL, .inr (0, oX0 PL aFL FL_parting)), ((aFL 2), .inl (cI, 64, .inl FL_far))]) [1, 3] rfl
        refine vp_callSi (va_runV (As := [.int x0, .int v5_4]) (rest := []) ⟨hx, hb, hml, hown, hts⟩ (c_X0_farOf l D cI cB cL cZ cG FL x0 v5_4 PL aFL FL_parting FL_far b_x0 bx17f_v5_4 sFL_far_0_k5) (cwV 2 hts gX7_waysInto_X0_farOf rfl rfl rfl (by decide +kernel) ⟨Nat.le_of_ble_eq_true rfl, Nat.le_of_ble_eq_true rfl⟩) ⟨xr_blind, va_recv hK hP (ci := 0) (q0 := 1) rfl rfl, fun U hU hW => xr_mk hU hW hPc hK⟩ rfl rfl hl.1 rfl (lv_room (Nat.le_of_ble_eq_true rfl)) dX7_waysInto_27 ⟨Nat.le_of_ble_eq_true rfl, Nat.le_of_ble_eq_true rfl⟩).run (fun r27 hr27 => ?_)
        clear hPc
        refine lv_aload_n hx hb dX7_waysInto_30 rfl (lv_at hl 2 rfl) ?_
        refine va_get (D := D) (ci := 7) (v := .ref FL) (C := RX7) (T := TX7) (N := 5) hx hb hts iw_X7_waysInto_X7 hown hK hP 0 rfl rfl 0 (by decide) (hts (.fieldLink RX7 21 "SoldHouse$Routes" "floor" "LSoldHouse$Floor;") (List.mem_of_getElem? (i := 1) rfl)) (fun _ h9 => h9) rfl dX7_waysInto_31 ?_
        refine lv_iload_n hx hb dX7_waysInto_34 rfl (lv_at hl 3 rfl) ?_
        refine lv_iload_n hx hb dX7_waysInto_35 rfl (lv_at hl 4 rfl) ?_
        have hPc := hP.sub (ws' := [(FL, .inr (0, oX0 PL aFL FL_parting)), ((aFL 2), .inl (cI, 64, .inl FL_far))]) [1, 3] rfl
        refine vp_callSi (va_runV (As := [.int x0, .int x1]) (rest := [.int r27]) ⟨hx, hb, hml, hown, hts⟩ (c_X0_farOf l D cI cB cL cZ cG FL x0 x1 PL aFL FL_parting FL_far b_x0 b_x1 sFL_far_0_k5) (cwV 2 hts gX7_waysInto_X0_farOf rfl rfl rfl (by decide +kernel) ⟨Nat.le_of_ble_eq_true rfl, Nat.le_of_ble_eq_true rfl⟩) ⟨xr_blind, va_recv hK hP (ci := 0) (q0 := 1) rfl rfl, fun U hU hW => xr_mk hU hW hPc hK⟩ rfl rfl hl.1 rfl (lv_room (Nat.le_of_ble_eq_true rfl)) dX7_waysInto_36 ⟨Nat.le_of_ble_eq_true rfl, Nat.le_of_ble_eq_true rfl⟩).run (fun r36 hr36 => ?_)
        clear hPc
        refine lv_iconst (v := 1) hx hb dX7_waysInto_39 (by decide) ?_
        refine lv_isub hx hb dX7_waysInto_40 ?_
        refine zi_top2 (P := fun y => y.toInt = r36.toInt + (-1)) (a := (-2)) (b := 6) (zB_sub hr36 (show zB 1 1 1 from ⟨by decide, by decide⟩) (by decide) (by decide) (by decide) (by decide)) (zR_subc hr36 (by decide) (by decide) (by decide)) (fun y40 by40 ry40 => ?_)
        have j49 : ∀ (ls : Array Slot) (u49_0 : Int32), zB u49_0 0 1 → zA FL_far 0 64 (-1) 7 → lv_has ls 6 [(4, .int v5_4), (3, .int v5_3), (0, .ref RO), (1, .int x0), (2, .int x1)] → W p l e ({ frames := 1, cells := 0, slots := 0, locals := 22 } : Room) s m ([.ref RO, .int x0, .int x1] : List Value).toArray below meth c s.heap [] 0 0 Q (F0 m 49 ls [.int u49_0]) := by
          intro ls u49_0 bu49_0_k49 sFL_far_0_k49 hl
          refine lv_istore (lv' := [(5, .int u49_0), (4, .int v5_4), (3, .int v5_3), (0, .ref RO), (1, .int x0), (2, .int x1)]) hx hb dX7_waysInto_49 hl (by decide) rfl (fun ls hl => ?_)
          refine lv_iload hx hb dX7_waysInto_51 (lv_at hl 0 rfl) ?_
          have j84 : ∀ (ls : Array Slot) (v84_3 : Int32), zA FL_far 0 64 (-1) 7 → lv_has ls 6 [(5, .int u49_0), (4, .int v5_4), (3, .int v84_3), (0, .ref RO), (1, .int x0), (2, .int x1)] → W p l e ({ frames := 1, cells := 0, slots := 0, locals := 22 } : Room) s m ([.ref RO, .int x0, .int x1] : List Value).toArray below meth c s.heap [] 0 0 Q (F0 m 84 ls []) := by
            intro ls v84_3 sFL_far_0_k84 hl
            obtain ⟨y84, by84, ry84, ey84⟩ := zi_inc (x := v5_4) (k := 1) (a := 1) (b := 8) bx17f_v5_4 (by decide) (by decide) (by decide) (by decide) (by decide)
            refine lv_iinc (v := y84) (lv' := [(4, .int y84), (5, .int u49_0), (3, .int v84_3), (0, .ref RO), (1, .int x0), (2, .int x1)]) hx hb dX7_waysInto_84 hl (k := 1) rfl ey84 (by decide) rfl (fun ls hl => ?_)
            refine lv_goto (tgt := 5) hx hb dX7_waysInto_87 (by decide) ?_
            exact ih5 ls y84 v84_3 (zB_w by84 (by decide) (by decide)) sFL_far_0_k84 (zM_us (k := 1) hm5 ry84 (by decide)) (lv_sub hl [0, 2, 3, 4, 5] rfl)
          refine lv_if_eq (tgt := 84) hx hb dX7_waysInto_53 (by decide) (fun c53 => ?_) (fun c53 => ?_)
          · have be53t_u49_0 : zB u49_0 0 0 := zB_eq c53 bu49_0_k49 (show zB 0 0 0 from ⟨by decide, by decide⟩) (by decide) (by decide)
            exact j84 ls v5_3 sFL_far_0_k49 (lv_sub hl [0, 1, 2, 3, 4, 5] rfl)
          · have bn53f_u49_0 : zB u49_0 1 1 := zB_neL c53 bu49_0_k49 (show zB 0 0 0 from ⟨by decide, by decide⟩) (by decide)
            refine lv_aload_n hx hb dX7_waysInto_56 rfl (lv_at hl 3 rfl) ?_
            refine va_get (D := D) (ci := 7) (v := .ref FL) (C := RX7) (T := TX7) (N := 5) hx hb hts iw_X7_waysInto_X7 hown hK hP 0 rfl rfl 0 (by decide) (hts (.fieldLink RX7 21 "SoldHouse$Routes" "floor" "LSoldHouse$Floor;") (List.mem_of_getElem? (i := 1) rfl)) (fun _ h9 => h9) rfl dX7_waysInto_57 ?_
            refine va_get (D := D) (ci := 0) (v := .ref (aFL 1)) (C := RX0) (T := TX0) (N := 5) hx hb hts iw_X7_waysInto_X0 hown hK hP 1 rfl rfl 1 (by decide) (hts (.fieldLink RX7 82 "SoldHouse$Floor" "next" "[I") (List.mem_of_getElem? (i := 4) rfl)) (fun _ h9 => h9) rfl dX7_waysInto_60 ?_
            refine lv_iload_n hx hb dX7_waysInto_63 rfl (lv_at hl 5 rfl) ?_
            refine va_iald hx hb hK hP 4 0 rfl rfl (zB_in b_x1 (by decide) (by decide)) dX7_waysInto_64 ?_
            refine lv_topi (fun y64 _ => ?_)
            refine lv_iload hx hb dX7_waysInto_65 (lv_at hl 1 rfl) ?_
            refine lv_ishr hx hb dX7_waysInto_67 ?_
            refine lv_topi (fun y67 _ => ?_)
            refine lv_iconst (v := 1) hx hb dX7_waysInto_68 (by decide) ?_
            refine lv_iand hx hb dX7_waysInto_69 ?_
            refine zi_top (a := 0) (b := 1) (zB_andr (show zB 1 1 1 from ⟨by decide, by decide⟩) (by decide)) (fun y69 by69 => ?_)
            refine lv_iconst (v := 1) hx hb dX7_waysInto_70 (by decide) ?_
            refine lv_icmp_ne (tgt := 84) hx hb dX7_waysInto_71 (by decide) (fun c71 => ?_) (fun c71 => ?_)
            · have bn71t_y69 : zB y69 0 0 := zB_neH c71 by69 (show zB 1 1 1 from ⟨by decide, by decide⟩) (by decide)
              exact j84 ls v5_3 sFL_far_0_k49 (lv_sub hl [0, 1, 2, 3, 4, 5] rfl)
            · have be71f_y69 : zB y69 1 1 := zB_eq c71 by69 (show zB 1 1 1 from ⟨by decide, by decide⟩) (by decide) (by decide)
              refine lv_iload_n hx hb dX7_waysInto_74 rfl (lv_at hl 2 rfl) ?_
              refine lv_aload_n hx hb dX7_waysInto_75 rfl (lv_at hl 3 rfl) ?_
              refine va_get (D := D) (ci := 7) (v := .ref (aRO 3)) (C := RX7) (T := TX7) (N := 5) hx hb hts iw_X7_waysInto_X7 hown hK hP 0 rfl rfl 3 (by decide) (hts (.fieldLink RX7 15 "SoldHouse$Routes" "cost" "[I") (List.mem_of_getElem? (i := 5) rfl)) (fun _ h9 => h9) rfl dX7_waysInto_76 ?_
              refine lv_iload hx hb dX7_waysInto_79 (lv_at hl 1 rfl) ?_
              refine va_iald hx hb hK hP 5 0 rfl rfl (zB_in bx17f_v5_4 (by decide) (by decide)) dX7_waysInto_81 ?_
              refine lv_topi (fun y81 _ => ?_)
              refine lv_iadd hx hb dX7_waysInto_82 ?_
              refine lv_topi (fun y82 _ => ?_)
              refine lv_istore_n (lv' := [(3, .int y82), (5, .int u49_0), (4, .int v5_4), (0, .ref RO), (1, .int x0), (2, .int x1)]) hx hb dX7_waysInto_83 rfl hl (by decide) rfl (fun ls hl => ?_)
              exact j84 ls y82 sFL_far_0_k49 (lv_sub hl [1, 2, 0, 3, 4, 5] rfl)
        refine lv_icmp_ne (tgt := 48) hx hb dX7_waysInto_41 (by decide) (fun c41 => ?_) (fun c41 => ?_)
        · refine lv_iconst (v := 0) hx hb dX7_waysInto_48 (by decide) ?_
          exact j49 ls 0 (zB_w (show zB 0 0 0 from ⟨by decide, by decide⟩) (by decide) (by decide)) sFL_far_0_k5 (lv_sub hl [0, 1, 2, 3, 4] rfl)
        · have be41f_r27 : zB r27 (-1) 6 := zB_eq c41 hr27 by40 (by decide) (by decide)
          have be41f_y40 : zB y40 (-1) 6 := zB_eq (Eq.symm c41) by40 be41f_r27 (by decide) (by decide)
          refine lv_iconst (v := 1) hx hb dX7_waysInto_44 (by decide) ?_
          refine lv_goto (tgt := 49) hx hb dX7_waysInto_45 (by decide) ?_
          exact j49 ls 1 (zB_w (show zB 1 1 1 from ⟨by decide, by decide⟩) (by decide) (by decide)) sFL_far_0_k5 (lv_sub hl [0, 1, 2, 3, 4] rfl)
  refine lv_istore (lv' := [(4, .int 0), (3, .int 0), (0, .ref RO), (1, .int x0), (2, .int x1)]) hx hb dX7_waysInto_3 hl (by decide) rfl (fun ls hl => ?_)
  exact j5 9 ls 0 0 (zB_w (show zB 0 0 0 from ⟨by decide, by decide⟩) (by decide) (by decide)) s_FL_far_0 (zM_ui (show zB 0 0 0 from ⟨by decide, by decide⟩) (by decide)) (lv_sub hl [0, 1, 2, 3, 4] rfl)
set_option maxHeartbeats 4000000 in
set_option maxRecDepth 100000 in
theorem c_X7_countWays (l : Launch) (D : va_G) (cI : ClassId) (cB : ClassId) (cL : ClassId) (cZ : ClassId) (cG : ClassId) (RO : Nat) (x0 : Int32) (x1 : Int32) (FL : Nat) (aRO : Nat → Nat) (RO_lying : Int32) (PL : Nat) (aFL : Nat → Nat) (FL_parting : Int32) (FL_far : Nat → Int32) (RO_cost : Nat → Int32) (PL_rooms : Int32) (aPL : Nat → Nat) (PL_doors : Int32) (PL_things : Int32) (FO : Nat) (PL_draw : Int32) (PL_drawTold : Int32) (FL_next : Nat → Int32) (sz : Nat) (b_x0 : zB x0 0 7) (b_x1 : zB x1 0 7) (b_RO_lying : zB RO_lying 0 8) (b_PL_rooms : zB PL_rooms 0 8) (b_PL_doors : zB PL_doors 0 12) (b_PL_things : zB PL_things 0 6) (s_FL_far_0 : zA FL_far 0 64 (-1) 7) : Met l yX7_countWays wsX7_countWays ({ frames := 2, cells := 0, slots := 0, locals := 47 }) (xp D [(cI, .int), (cB, .byte), (cL, .long), (cZ, .boolean), (cG, .array .int)] [(RO, .inr (7, oX7 FL aRO RO_lying)), (FL, .inr (0, oX0 PL aFL FL_parting)), ((aFL 2), .inl (cI, 64, .inl FL_far)), ((aRO 3), .inl (cI, 8, .inl RO_cost)), (PL, .inr (5, oX5 FO aPL PL_rooms PL_doors PL_things PL_draw PL_drawTold)), ((aFL 1), .inl (cI, 8, .inl FL_next))] sz [] [.ref RO, .int x0, .int x1]) (va_Qi (fun (r : Int32) (_ : Unit) => True) (fun (_ : Unit) (t : State) => ∃ (nROcost : Nat → Int32), xB D (va_A [(RO, .inr (7, oX7 FL aRO RO_lying)), (FL, .inr (0, oX0 PL aFL FL_parting)), ((aFL 2), .inl (cI, 64, .inl FL_far)), ((aRO 3), .inl (cI, 8, .inl RO_cost)), (PL, .inr (5, oX5 FO aPL PL_rooms PL_doors PL_things PL_draw PL_drawTold)), ((aFL 1), .inl (cI, 8, .inl FL_next))] sz) [(RO, .inr (7, oX7 FL aRO RO_lying)), (FL, .inr (0, oX0 PL aFL FL_parting)), ((aFL 2), .inl (cI, 64, .inl FL_far)), ((aRO 3), .inl (cI, 8, .inl nROcost)), (PL, .inr (5, oX5 FO aPL PL_rooms PL_doors PL_things PL_draw PL_drawTold)), ((aFL 1), .inl (cI, 8, .inl FL_next))] t) (va_A [(RO, .inr (7, oX7 FL aRO RO_lying)), (FL, .inr (0, oX0 PL aFL FL_parting)), ((aFL 2), .inl (cI, 64, .inl FL_far)), ((aRO 3), .inl (cI, 8, .inl RO_cost)), (PL, .inr (5, oX5 FO aPL PL_rooms PL_doors PL_things PL_draw PL_drawTold)), ((aFL 1), .inl (cI, 8, .inl FL_next))] sz)) 0 0 (va_A [(RO, .inr (7, oX7 FL aRO RO_lying)), (FL, .inr (0, oX0 PL aFL FL_parting)), ((aFL 2), .inl (cI, 64, .inl FL_far)), ((aRO 3), .inl (cI, 8, .inl RO_cost)), (PL, .inr (5, oX5 FO aPL PL_rooms PL_doors PL_things PL_draw PL_drawTold)), ((aFL 1), .inl (cI, 8, .inl FL_next))] sz) := by
  refine Met.ofW (cc := cX7_countWays) (maxL := 5) (ret := (some .int)) (by decide) rfl ?_
  intro p e s m args below meth c s₁ B hml hv
  obtain ⟨rfl, hsz, hP, hK, hD0, hNw⟩ := hv
  have hx := B.exec
  have hb := B.bytes
  have hr := B.returns
  have hts := atoms_spec (ws := wsX7_countWays) B.pre
  have hown : s.vm.findClass RX7 = some m.cls := findClass_of_methodNamed B.named
  have hlocks := B.notSynchronized
  clear B
  subst hsz
  have hD := hD0.self (sz := s.heap.size)
  clear hD0 hNw
  generalize hAe : va_A [(RO, .inr (7, oX7 FL aRO RO_lying)), (FL, .inr (0, oX0 PL aFL FL_parting)), ((aFL 2), .inl (cI, 64, .inl FL_far)), ((aRO 3), .inl (cI, 8, .inl RO_cost)), (PL, .inr (5, oX5 FO aPL PL_rooms PL_doors PL_things PL_draw PL_drawTold)), ((aFL 1), .inl (cI, 8, .inl FL_next))] s.heap.size = A at hD ⊢
  have hA : ∀ q : Nat, s.heap.size ≤ q → A q := fun q h => by rw [← hAe]; exact Or.inr h
  have hS : va_S A s.heap s.heap [] := va_S.rf
  clear hAe
  obtain ⟨H, hH⟩ : ∃ H : Heap, H = s.heap := ⟨_, rfl⟩
  obtain ⟨locs, hlocs⟩ : ∃ L : List Loc, L = [] := ⟨_, rfl⟩
  replace hP : va_P D classes [(RO, .inr (7, oX7 FL aRO RO_lying)), (FL, .inr (0, oX0 PL aFL FL_parting)), ((aFL 2), .inl (cI, 64, .inl FL_far)), ((aRO 3), .inl (cI, 8, .inl RO_cost)), (PL, .inr (5, oX5 FO aPL PL_rooms PL_doors PL_things PL_draw PL_drawTold)), ((aFL 1), .inl (cI, 8, .inl FL_next))] H := by rw [hH]; exact hP
  replace hS : va_S A s.heap H locs := by rw [hH, hlocs]; exact hS
  rw [← hH, ← hlocs]
  clear hlocs hH
  have hl := lv_entry ([.ref RO, .int x0, .int x1]) (n := 5) (Nat.le_of_ble_eq_true rfl)
  rw [lg_entry_eq]
  generalize (lg_sl ([.ref RO, .int x0, .int x1]) ++ List.replicate (5 - (lg_sl ([.ref RO, .int x0, .int x1])).length) Slot.unset).toArray = ls at hl ⊢
  replace hl : lv_has ls 5 [(0, .ref RO), (1, .int x0), (2, .int x1)] := hl
  refine zz_abs (R := ({ frames := 2, cells := 0, slots := 0, locals := 47 } : Room)) (fun Q up => ?_)
  refine lv_aload_n hx hb dX7_countWays_0 rfl (lv_at hl 0 rfl) ?_
  refine va_get (D := D) (ci := 7) (v := .ref FL) (C := RX7) (T := TX7) (N := 5) hx hb hts iw_X7_countWays_X7 hown hK hP 0 rfl rfl 0 (by decide) (hts (.fieldLink RX7 21 "SoldHouse$Routes" "floor" "LSoldHouse$Floor;") (List.mem_of_getElem? (i := 1) rfl)) (fun _ h9 => h9) rfl dX7_countWays_1 ?_
  refine lv_iload_n hx hb dX7_countWays_4 rfl (lv_at hl 1 rfl) ?_
  refine lv_iload_n hx hb dX7_countWays_5 rfl (lv_at hl 2 rfl) ?_
  have hPc := hP.sub (ws' := [(FL, .inr (0, oX0 PL aFL FL_parting)), ((aFL 2), .inl (cI, 64, .inl FL_far))]) [1, 2] rfl
  refine vp_callSi (va_runV (As := [.int x0, .int x1]) (rest := []) ⟨hx, hb, hml, hown, hts⟩ (c_X0_farOf l D cI cB cL cZ cG FL x0 x1 PL aFL FL_parting FL_far b_x0 b_x1 s_FL_far_0) (cwV 2 hts gX7_countWays_X0_farOf rfl rfl rfl (by decide +kernel) ⟨Nat.le_of_ble_eq_true rfl, Nat.le_of_ble_eq_true rfl⟩) ⟨xr_blind, va_recv hK hP (ci := 0) (q0 := 1) rfl rfl, fun U hU hW => xr_mk hU hW hPc hK⟩ rfl rfl hl.1 rfl (lv_room (Nat.le_of_ble_eq_true rfl)) dX7_countWays_6 ⟨Nat.le_of_ble_eq_true rfl, Nat.le_of_ble_eq_true rfl⟩).run (fun r6 hr6 => ?_)
  clear hPc
  refine lv_iconst (v := (-1)) hx hb dX7_countWays_9 (by decide) ?_
  refine lv_icmp_ne (tgt := 15) hx hb dX7_countWays_10 (by decide) (fun c10 => ?_) (fun c10 => ?_)
  · have bn10t_r6 : zB r6 0 7 := zB_neL c10 hr6 (show zB (-1) (-1) (-1) from ⟨by decide, by decide⟩) (by decide)
    refine lv_aload_n hx hb dX7_countWays_15 rfl (lv_at hl 0 rfl) ?_
    refine va_get (D := D) (ci := 7) (v := .ref (aRO 3)) (C := RX7) (T := TX7) (N := 5) hx hb hts iw_X7_countWays_X7 hown hK hP 0 rfl rfl 3 (by decide) (hts (.fieldLink RX7 15 "SoldHouse$Routes" "cost" "[I") (List.mem_of_getElem? (i := 2) rfl)) (fun _ h9 => h9) rfl dX7_countWays_16 ?_
    refine lv_iconst (v := 0) hx hb dX7_countWays_19 (by decide) ?_
    have hPc := hP.sub (ws' := [((aRO 3), .inl (cI, 8, .inl RO_cost))]) [3] rfl
    have hDc := hD.sub (ws' := [((aRO 3), .inl (cI, 8, .inl RO_cost))]) [3] (by decide) rfl
    have hFc := va_free (wc := [((aRO 3), .inl (cI, 8, .inl RO_cost))]) hD hS hA [3] rfl
    refine va_callv (va_runS (As := [.ref (aRO 3), .int 0]) (rest := []) ⟨hx, hb, hml, hown, hts⟩ (c_fill8 l D cI cB cL cZ cG (aRO 3) RO_cost 0 H.size) (va_cwS 2 hts gX7_countWays_J7_fill_53178 rfl rfl rfl (by decide +kernel) ⟨Nat.le_of_ble_eq_true rfl, Nat.le_of_ble_eq_true rfl⟩) ⟨xp_blind, fun U hU hW => xp_mk hU hW hPc hK hDc xNw_nil⟩ rfl rfl hl.1 rfl (lv_room (Nat.le_of_ble_eq_true rfl)) dX7_countWays_20 ⟨Nat.le_of_ble_eq_true rfl, Nat.le_of_ble_eq_true rfl⟩) hS (fun q _ h => hFc q h) hFc (fun u9 t9 H1 locs ht9 hvm9 hr20 hB9 hz9 hk9 hS => ?_)
    obtain ⟨o20_narf, hP1, hD1⟩ := hB9
    rw [ht9] at hP1
    obtain ⟨hP, hD⟩ := va_join (wr := [(RO, .inr (7, oX7 FL aRO RO_lying)), (FL, .inr (0, oX0 PL aFL FL_parting)), ((aFL 2), .inl (cI, 64, .inl FL_far)), (PL, .inr (5, oX5 FO aPL PL_rooms PL_doors PL_things PL_draw PL_drawTold)), ((aFL 1), .inl (cI, 8, .inl FL_next))]) (w1 := [((aRO 3), .inl (cI, 8, .inl o20_narf))]) hP hD [3] [0, 1, 2, 4, 5] rfl rfl (by decide) (by decide) hk9 hFc hP1 hD1
    clear hz9 hPc hDc hP1 hD1 hk9 hFc ht9 hvm9 u9 t9
    generalize H1 = H at hP hS ⊢
    replace hP : va_P D classes [(RO, .inr (7, oX7 FL aRO RO_lying)), (FL, .inr (0, oX0 PL aFL FL_parting)), ((aFL 2), .inl (cI, 64, .inl FL_far)), ((aRO 3), .inl (cI, 8, .inl o20_narf)), (PL, .inr (5, oX5 FO aPL PL_rooms PL_doors PL_things PL_draw PL_drawTold)), ((aFL 1), .inl (cI, 8, .inl FL_next))] H := hP.sub [0, 1, 2, 5, 3, 4] rfl
    replace hD : va_D A [(RO, .inr (7, oX7 FL aRO RO_lying)), (FL, .inr (0, oX0 PL aFL FL_parting)), ((aFL 2), .inl (cI, 64, .inl FL_far)), ((aRO 3), .inl (cI, 8, .inl o20_narf)), (PL, .inr (5, oX5 FO aPL PL_rooms PL_doors PL_things PL_draw PL_drawTold)), ((aFL 1), .inl (cI, 8, .inl FL_next))] := hD.sub [0, 1, 2, 5, 3, 4] (by decide) rfl
    refine lv_aload_n hx hb dX7_countWays_23 rfl (lv_at hl 0 rfl) ?_
    refine va_get (D := D) (ci := 7) (v := .ref (aRO 3)) (C := RX7) (T := TX7) (N := 5) hx hb hts iw_X7_countWays_X7 hown hK hP 0 rfl rfl 3 (by decide) (hts (.fieldLink RX7 15 "SoldHouse$Routes" "cost" "[I") (List.mem_of_getElem? (i := 2) rfl)) (fun _ h9 => h9) rfl dX7_countWays_24 ?_
    refine lv_iload_n hx hb dX7_countWays_27 rfl (lv_at hl 1 rfl) ?_
    refine lv_iconst (v := 1) hx hb dX7_countWays_28 (by decide) ?_
    refine zi_iast hx hb hK hP hD hS 3 0 rfl rfl (zB_in b_x0 (by decide) (by decide)) dX7_countWays_29 (fun H locs g29 eg29 hP hD hS => ?_)
    replace hP : va_P D classes [(RO, .inr (7, oX7 FL aRO RO_lying)), (FL, .inr (0, oX0 PL aFL FL_parting)), ((aFL 2), .inl (cI, 64, .inl FL_far)), ((aRO 3), .inl (cI, 8, .inl g29)), (PL, .inr (5, oX5 FO aPL PL_rooms PL_doors PL_things PL_draw PL_drawTold)), ((aFL 1), .inl (cI, 8, .inl FL_next))] H := hP
    replace hD : va_D A [(RO, .inr (7, oX7 FL aRO RO_lying)), (FL, .inr (0, oX0 PL aFL FL_parting)), ((aFL 2), .inl (cI, 64, .inl FL_far)), ((aRO 3), .inl (cI, 8, .inl g29)), (PL, .inr (5, oX5 FO aPL PL_rooms PL_doors PL_things PL_draw PL_drawTold)), ((aFL 1), .inl (cI, 8, .inl FL_next))] := hD
    clear eg29
    refine lv_iconst (v := 1) hx hb dX7_countWays_30 (by decide) ?_
    have j32 : ∀ (n32 : Nat) (H : Heap) (locs : List Loc) (ls : Array Slot) (v32_3 : Int32) (g32_aRO3 : Nat → Int32), zB v32_3 1 8 → zA FL_far 0 64 (-1) 7 → (8 + 1 - v32_3.toInt) ≤ (n32 : Int) → va_P D classes [(RO, .inr (7, oX7 FL aRO RO_lying)), (FL, .inr (0, oX0 PL aFL FL_parting)), ((aFL 2), .inl (cI, 64, .inl FL_far)), ((aRO 3), .inl (cI, 8, .inl g32_aRO3)), (PL, .inr (5, oX5 FO aPL PL_rooms PL_doors PL_things PL_draw PL_drawTold)), ((aFL 1), .inl (cI, 8, .inl FL_next))] H → va_D A [(RO, .inr (7, oX7 FL aRO RO_lying)), (FL, .inr (0, oX0 PL aFL FL_parting)), ((aFL 2), .inl (cI, 64, .inl FL_far)), ((aRO 3), .inl (cI, 8, .inl g32_aRO3)), (PL, .inr (5, oX5 FO aPL PL_rooms PL_doors PL_things PL_draw PL_drawTold)), ((aFL 1), .inl (cI, 8, .inl FL_next))] → va_S A s.heap H locs → lv_has ls 5 [(3, .int v32_3), (0, .ref RO), (1, .int x0), (2, .int x1)] → W p l e ({ frames := 2, cells := 0, slots := 0, locals := 47 } : Room) s m ([.ref RO, .int x0, .int x1] : List Value).toArray below meth c H locs 0 0 Q (F0 m 32 ls []) := by
      intro n32
      induction n32 with
      | zero => intro H locs ls v32_3 g32_aRO3 bv32_3_k32 sFL_far_0_k32 hm32 hP hD hS hl; exact zM_u0 bv32_3_k32 hm32
      | succ n32 ih32 =>
        intro H locs ls v32_3 g32_aRO3 bv32_3_k32 sFL_far_0_k32 hm32 hP hD hS hl
        refine lv_iload_n hx hb dX7_countWays_32 rfl (lv_at hl 0 rfl) ?_
        refine lv_aload_n hx hb dX7_countWays_33 rfl (lv_at hl 1 rfl) ?_
        refine va_get (D := D) (ci := 7) (v := .ref FL) (C := RX7) (T := TX7) (N := 5) hx hb hts iw_X7_countWays_X7 hown hK hP 0 rfl rfl 0 (by decide) (hts (.fieldLink RX7 21 "SoldHouse$Routes" "floor" "LSoldHouse$Floor;") (List.mem_of_getElem? (i := 1) rfl)) (fun _ h9 => h9) rfl dX7_countWays_34 ?_
        refine lv_iload_n hx hb dX7_countWays_37 rfl (lv_at hl 2 rfl) ?_
        refine lv_iload_n hx hb dX7_countWays_38 rfl (lv_at hl 3 rfl) ?_
        have hPc := hP.sub (ws' := [(FL, .inr (0, oX0 PL aFL FL_parting)), ((aFL 2), .inl (cI, 64, .inl FL_far))]) [1, 2] rfl
        refine vp_callSi (va_runV (As := [.int x0, .int x1]) (rest := [.int v32_3]) ⟨hx, hb, hml, hown, hts⟩ (c_X0_farOf l D cI cB cL cZ cG FL x0 x1 PL aFL FL_parting FL_far b_x0 b_x1 sFL_far_0_k32) (cwV 2 hts gX7_countWays_X0_farOf rfl rfl rfl (by decide +kernel) ⟨Nat.le_of_ble_eq_true rfl, Nat.le_of_ble_eq_true rfl⟩) ⟨xr_blind, va_recv hK hP (ci := 0) (q0 := 1) rfl rfl, fun U hU hW => xr_mk hU hW hPc hK⟩ rfl rfl hl.1 rfl (lv_room (Nat.le_of_ble_eq_true rfl)) dX7_countWays_39 ⟨Nat.le_of_ble_eq_true rfl, Nat.le_of_ble_eq_true rfl⟩).run (fun r39 hr39 => ?_)
        clear hPc
        refine lv_icmp_gt (tgt := 103) hx hb dX7_countWays_42 (by decide) (fun c42 => ?_) (fun c42 => ?_)
        · refine lv_aload_n hx hb dX7_countWays_103 rfl (lv_at hl 1 rfl) ?_
          refine va_get (D := D) (ci := 7) (v := .ref (aRO 3)) (C := RX7) (T := TX7) (N := 5) hx hb hts iw_X7_countWays_X7 hown hK hP 0 rfl rfl 3 (by decide) (hts (.fieldLink RX7 15 "SoldHouse$Routes" "cost" "[I") (List.mem_of_getElem? (i := 2) rfl)) (fun _ h9 => h9) rfl dX7_countWays_104 ?_
          refine lv_iload_n hx hb dX7_countWays_107 rfl (lv_at hl 3 rfl) ?_
          refine va_iald hx hb hK hP 3 0 rfl rfl (zB_in b_x1 (by decide) (by decide)) dX7_countWays_108 ?_
          refine lv_topi (fun y108 _ => ?_)
          exact up _ _ _ (W.iret (v := y108) hx hb hr (fun t ht hW => ⟨⟨y108, (), rfl, trivial, ⟨g32_aRO3, by rw [ht]; exact hP, hD⟩⟩, hS.F ht⟩) hS.2.2 dX7_countWays_109)
        · have bx42f_v32_3 : zB v32_3 1 7 := zB_leu (zg c42) bv32_3_k32 hr39 (by decide)
          have by42f_r39 : zB r39 1 7 := zB_lev (zg c42) bx42f_v32_3 hr39 (by decide)
          refine lv_iconst (v := 0) hx hb dX7_countWays_45 (by decide) ?_
          have j48 : ∀ (n48 : Nat) (H : Heap) (locs : List Loc) (ls : Array Slot) (v48_4 : Int32) (g48_aRO3 : Nat → Int32), zB v48_4 0 8 → zA FL_far 0 64 (-1) 7 → (8 + 1 - v48_4.toInt) ≤ (n48 : Int) → va_P D classes [(RO, .inr (7, oX7 FL aRO RO_lying)), (FL, .inr (0, oX0 PL aFL FL_parting)), ((aFL 2), .inl (cI, 64, .inl FL_far)), ((aRO 3), .inl (cI, 8, .inl g48_aRO3)), (PL, .inr (5, oX5 FO aPL PL_rooms PL_doors PL_things PL_draw PL_drawTold)), ((aFL 1), .inl (cI, 8, .inl FL_next))] H → va_D A [(RO, .inr (7, oX7 FL aRO RO_lying)), (FL, .inr (0, oX0 PL aFL FL_parting)), ((aFL 2), .inl (cI, 64, .inl FL_far)), ((aRO 3), .inl (cI, 8, .inl g48_aRO3)), (PL, .inr (5, oX5 FO aPL PL_rooms PL_doors PL_things PL_draw PL_drawTold)), ((aFL 1), .inl (cI, 8, .inl FL_next))] → va_S A s.heap H locs → lv_has ls 5 [(4, .int v48_4), (3, .int v32_3), (0, .ref RO), (1, .int x0), (2, .int x1)] → W p l e ({ frames := 2, cells := 0, slots := 0, locals := 47 } : Room) s m ([.ref RO, .int x0, .int x1] : List Value).toArray below meth c H locs 0 0 Q (F0 m 48 ls []) := by
            intro n48
            induction n48 with
            | zero => intro H locs ls v48_4 g48_aRO3 bv48_4_k48 sFL_far_0_k48 hm48 hP hD hS hl; exact zM_u0 bv48_4_k48 hm48
            | succ n48 ih48 =>
              intro H locs ls v48_4 g48_aRO3 bv48_4_k48 sFL_far_0_k48 hm48 hP hD hS hl
              refine lv_iload hx hb dX7_countWays_48 (lv_at hl 0 rfl) ?_
              refine lv_aload_n hx hb dX7_countWays_50 rfl (lv_at hl 2 rfl) ?_
              refine va_get (D := D) (ci := 7) (v := .ref FL) (C := RX7) (T := TX7) (N := 5) hx hb hts iw_X7_countWays_X7 hown hK hP 0 rfl rfl 0 (by decide) (hts (.fieldLink RX7 21 "SoldHouse$Routes" "floor" "LSoldHouse$Floor;") (List.mem_of_getElem? (i := 1) rfl)) (fun _ h9 => h9) rfl dX7_countWays_51 ?_
              refine va_get (D := D) (ci := 0) (v := .ref PL) (C := RX0) (T := TX0) (N := 5) hx hb hts iw_X7_countWays_X0 hown hK hP 1 rfl rfl 0 (by decide) (hts (.fieldLink RX7 52 "SoldHouse$Floor" "plan" "LSoldHouse$Plan;") (List.mem_of_getElem? (i := 3) rfl)) (fun _ h9 => h9) rfl dX7_countWays_54 ?_
              refine va_get (D := D) (ci := 5) (v := .int PL_rooms) (C := RX5) (T := TX5) (N := 16) hx hb hts iw_X7_countWays_X5 hown hK hP 4 rfl rfl 0 (by decide) (hts (.fieldLink RX7 56 "SoldHouse$Plan" "rooms" "I") (List.mem_of_getElem? (i := 4) rfl)) (fun _ h9 => h9) rfl dX7_countWays_57 ?_
              refine lv_icmp_ge (tgt := 97) hx hb dX7_countWays_60 (by decide) (fun c60 => ?_) (fun c60 => ?_)
              · obtain ⟨y97, by97, ry97, ey97⟩ := zi_inc (x := v32_3) (k := 1) (a := 2) (b := 8) bx42f_v32_3 (by decide) (by decide) (by decide) (by decide) (by decide)
                refine lv_iinc (v := y97) (lv' := [(3, .int y97), (4, .int v48_4), (0, .ref RO), (1, .int x0), (2, .int x1)]) hx hb dX7_countWays_97 hl (k := 1) rfl ey97 (by decide) rfl (fun ls hl => ?_)
                refine lv_goto (tgt := 32) hx hb dX7_countWays_100 (by decide) ?_
                exact ih32 H locs ls y97 g48_aRO3 (zB_w by97 (by decide) (by decide)) sFL_far_0_k48 (zM_us (k := 1) hm32 ry97 (by decide)) hP hD hS (lv_sub hl [0, 2, 3, 4] rfl)
              · have bx60f_v48_4 : zB v48_4 0 7 := zB_ltu (zf c60) bv48_4_k48 b_PL_rooms (by decide)
                have by60f_PL_rooms : zB PL_rooms 1 8 := zB_ltv (zf c60) bx60f_v48_4 b_PL_rooms (by decide)
                refine lv_aload_n hx hb dX7_countWays_63 rfl (lv_at hl 2 rfl) ?_
                refine va_get (D := D) (ci := 7) (v := .ref FL) (C := RX7) (T := TX7) (N := 5) hx hb hts iw_X7_countWays_X7 hown hK hP 0 rfl rfl 0 (by decide) (hts (.fieldLink RX7 21 "SoldHouse$Routes" "floor" "LSoldHouse$Floor;") (List.mem_of_getElem? (i := 1) rfl)) (fun _ h9 => h9) rfl dX7_countWays_64 ?_
                refine lv_iload_n hx hb dX7_countWays_67 rfl (lv_at hl 3 rfl) ?_
                refine lv_iload hx hb dX7_countWays_68 (lv_at hl 0 rfl) ?_
                have hPc := hP.sub (ws' := [(FL, .inr (0, oX0 PL aFL FL_parting)), ((aFL 2), .inl (cI, 64, .inl FL_far))]) [1, 2] rfl
                refine vp_callSi (va_runV (As := [.int x0, .int v48_4]) (rest := []) ⟨hx, hb, hml, hown, hts⟩ (c_X0_farOf l D cI cB cL cZ cG FL x0 v48_4 PL aFL FL_parting FL_far b_x0 bx60f_v48_4 sFL_far_0_k48) (cwV 2 hts gX7_countWays_X0_farOf rfl rfl rfl (by decide +kernel) ⟨Nat.le_of_ble_eq_true rfl, Nat.le_of_ble_eq_true rfl⟩) ⟨xr_blind, va_recv hK hP (ci := 0) (q0 := 1) rfl rfl, fun U hU hW => xr_mk hU hW hPc hK⟩ rfl rfl hl.1 rfl (lv_room (Nat.le_of_ble_eq_true rfl)) dX7_countWays_70 ⟨Nat.le_of_ble_eq_true rfl, Nat.le_of_ble_eq_true rfl⟩).run (fun r70 hr70 => ?_)
                clear hPc
                refine lv_iload_n hx hb dX7_countWays_73 rfl (lv_at hl 1 rfl) ?_
                have j91 : ∀ (H : Heap) (locs : List Loc) (ls : Array Slot) (g91_aRO3 : Nat → Int32), zA FL_far 0 64 (-1) 7 → va_P D classes [(RO, .inr (7, oX7 FL aRO RO_lying)), (FL, .inr (0, oX0 PL aFL FL_parting)), ((aFL 2), .inl (cI, 64, .inl FL_far)), ((aRO 3), .inl (cI, 8, .inl g91_aRO3)), (PL, .inr (5, oX5 FO aPL PL_rooms PL_doors PL_things PL_draw PL_drawTold)), ((aFL 1), .inl (cI, 8, .inl FL_next))] H → va_D A [(RO, .inr (7, oX7 FL aRO RO_lying)), (FL, .inr (0, oX0 PL aFL FL_parting)), ((aFL 2), .inl (cI, 64, .inl FL_far)), ((aRO 3), .inl (cI, 8, .inl g91_aRO3)), (PL, .inr (5, oX5 FO aPL PL_rooms PL_doors PL_things PL_draw PL_drawTold)), ((aFL 1), .inl (cI, 8, .inl FL_next))] → va_S A s.heap H locs → lv_has ls 5 [(4, .int v48_4), (3, .int v32_3), (0, .ref RO), (1, .int x0), (2, .int x1)] → W p l e ({ frames := 2, cells := 0, slots := 0, locals := 47 } : Room) s m ([.ref RO, .int x0, .int x1] : List Value).toArray below meth c H locs 0 0 Q (F0 m 91 ls []) := by
                  intro H locs ls g91_aRO3 sFL_far_0_k91 hP hD hS hl
                  obtain ⟨y91, by91, ry91, ey91⟩ := zi_inc (x := v48_4) (k := 1) (a := 1) (b := 8) bx60f_v48_4 (by decide) (by decide) (by decide) (by decide) (by decide)
                  refine lv_iinc (v := y91) (lv' := [(4, .int y91), (3, .int v32_3), (0, .ref RO), (1, .int x0), (2, .int x1)]) hx hb dX7_countWays_91 hl (k := 0) rfl ey91 (by decide) rfl (fun ls hl => ?_)
                  refine lv_goto (tgt := 48) hx hb dX7_countWays_94 (by decide) ?_
                  exact ih48 H locs ls y91 g91_aRO3 (zB_w by91 (by decide) (by decide)) sFL_far_0_k91 (zM_us (k := 1) hm48 ry91 (by decide)) hP hD hS (lv_sub hl [0, 1, 2, 3, 4] rfl)
                refine lv_icmp_ne (tgt := 91) hx hb dX7_countWays_74 (by decide) (fun c74 => ?_) (fun c74 => ?_)
                · exact j91 H locs ls g48_aRO3 sFL_far_0_k48 hP hD hS (lv_sub hl [0, 1, 2, 3, 4] rfl)
                · have be74f_r70 : zB r70 1 7 := zB_eq c74 hr70 bx42f_v32_3 (by decide) (by decide)
                  refine lv_aload_n hx hb dX7_countWays_77 rfl (lv_at hl 2 rfl) ?_
                  refine va_get (D := D) (ci := 7) (v := .ref (aRO 3)) (C := RX7) (T := TX7) (N := 5) hx hb hts iw_X7_countWays_X7 hown hK hP 0 rfl rfl 3 (by decide) (hts (.fieldLink RX7 15 "SoldHouse$Routes" "cost" "[I") (List.mem_of_getElem? (i := 2) rfl)) (fun _ h9 => h9) rfl dX7_countWays_78 ?_
                  refine lv_iload hx hb dX7_countWays_81 (lv_at hl 0 rfl) ?_
                  refine lv_aload_n hx hb dX7_countWays_83 rfl (lv_at hl 2 rfl) ?_
                  refine lv_iload_n hx hb dX7_countWays_84 rfl (lv_at hl 3 rfl) ?_
                  refine lv_iload hx hb dX7_countWays_85 (lv_at hl 0 rfl) ?_
                  have hPc := hP.sub (ws' := [(RO, .inr (7, oX7 FL aRO RO_lying)), (FL, .inr (0, oX0 PL aFL FL_parting)), (PL, .inr (5, oX5 FO aPL PL_rooms PL_doors PL_things PL_draw PL_drawTold)), ((aFL 2), .inl (cI, 64, .inl FL_far)), ((aFL 1), .inl (cI, 8, .inl FL_next)), ((aRO 3), .inl (cI, 8, .inl g48_aRO3))]) [0, 1, 4, 2, 5, 3] rfl
                  refine vp_callSi (va_runV (As := [.int x0, .int v48_4]) (rest := [.int v48_4, .ref (aRO 3)]) ⟨hx, hb, hml, hown, hts⟩ (c_X7_waysInto l D cI cB cL cZ cG RO x0 v48_4 FL aRO RO_lying PL aFL FL_parting PL_rooms aPL PL_doors PL_things FO PL_draw PL_drawTold FL_far FL_next g48_aRO3 b_x0 bx60f_v48_4 b_RO_lying (zB_w by60f_PL_rooms (by decide) (by decide)) b_PL_doors b_PL_things sFL_far_0_k48) (cwV 2 hts gX7_countWays_X7_waysInto rfl rfl rfl (by decide +kernel) ⟨Nat.le_of_ble_eq_true rfl, Nat.le_of_ble_eq_true rfl⟩) ⟨xr_blind, va_recv hK hP (ci := 7) (q0 := 0) rfl rfl, fun U hU hW => xr_mk hU hW hPc hK⟩ rfl rfl hl.1 rfl (lv_room (Nat.le_of_ble_eq_true rfl)) dX7_countWays_87 ⟨Nat.le_of_ble_eq_true rfl, Nat.le_of_ble_eq_true rfl⟩).run (fun r87 hr87 => ?_)
                  clear hPc
                  clear hr87
                  refine zi_iast hx hb hK hP hD hS 3 0 rfl rfl (zB_in bx60f_v48_4 (by decide) (by decide)) dX7_countWays_90 (fun H locs g90 eg90 hP hD hS => ?_)
                  replace hP : va_P D classes [(RO, .inr (7, oX7 FL aRO RO_lying)), (FL, .inr (0, oX0 PL aFL FL_parting)), ((aFL 2), .inl (cI, 64, .inl FL_far)), ((aRO 3), .inl (cI, 8, .inl g90)), (PL, .inr (5, oX5 FO aPL PL_rooms PL_doors PL_things PL_draw PL_drawTold)), ((aFL 1), .inl (cI, 8, .inl FL_next))] H := hP
                  replace hD : va_D A [(RO, .inr (7, oX7 FL aRO RO_lying)), (FL, .inr (0, oX0 PL aFL FL_parting)), ((aFL 2), .inl (cI, 64, .inl FL_far)), ((aRO 3), .inl (cI, 8, .inl g90)), (PL, .inr (5, oX5 FO aPL PL_rooms PL_doors PL_things PL_draw PL_drawTold)), ((aFL 1), .inl (cI, 8, .inl FL_next))] := hD
                  clear eg90
                  exact j91 H locs ls g90 sFL_far_0_k48 hP hD hS (lv_sub hl [0, 1, 2, 3, 4] rfl)
          refine lv_istore (lv' := [(4, .int 0), (3, .int v32_3), (0, .ref RO), (1, .int x0), (2, .int x1)]) hx hb dX7_countWays_46 hl (by decide) rfl (fun ls hl => ?_)
          exact j48 9 H locs ls 0 g32_aRO3 (zB_w (show zB 0 0 0 from ⟨by decide, by decide⟩) (by decide) (by decide)) sFL_far_0_k32 (zM_ui (show zB 0 0 0 from ⟨by decide, by decide⟩) (by decide)) hP hD hS (lv_sub hl [0, 1, 2, 3, 4] rfl)
    refine lv_istore_n (lv' := [(3, .int 1), (0, .ref RO), (1, .int x0), (2, .int x1)]) hx hb dX7_countWays_31 rfl hl (by decide) rfl (fun ls hl => ?_)
    exact j32 8 H locs ls 1 g29 (zB_w (show zB 1 1 1 from ⟨by decide, by decide⟩) (by decide) (by decide)) s_FL_far_0 (zM_ui (show zB 1 1 1 from ⟨by decide, by decide⟩) (by decide)) hP hD hS (lv_sub hl [0, 1, 2, 3] rfl)
  · have be10f_r6 : zB r6 (-1) (-1) := zB_eq c10 hr6 (show zB (-1) (-1) (-1) from ⟨by decide, by decide⟩) (by decide) (by decide)
    refine lv_iconst (v := (-1)) hx hb dX7_countWays_13 (by decide) ?_
    exact up _ _ _ (W.iret (v := (-1)) hx hb hr (fun t ht hW => ⟨⟨(-1), (), rfl, trivial, ⟨RO_cost, by rw [ht]; exact hP, hD⟩⟩, hS.F ht⟩) hS.2.2 dX7_countWays_14)
set_option maxHeartbeats 4000000 in
set_option maxRecDepth 100000 in
theorem c_X7_tourBy (l : Launch) (D : va_G) (cI : ClassId) (cB : ClassId) (cL : ClassId) (cZ : ClassId) (cG : ClassId) (RO : Nat) (x0 : Int32) (x1 : Int32) (x2 : Int32) (FL : Nat) (aRO : Nat → Nat) (RO_lying : Int32) (PL : Nat) (aFL : Nat → Nat) (FL_parting : Int32) (FL_far : Nat → Int32) (RO_rest : Nat → Int32) (b_x0 : zB x0 0 7) (b_x1 : zB x1 0 7) (b_x2 : zB x2 0 255) (b_RO_lying : zB RO_lying 0 8) (s_FL_far_0 : zA FL_far 0 64 (-1) 7) : Met l yX7_tourBy wsX7_tourBy ({ frames := 1, cells := 0, slots := 0, locals := 22 }) (xr D [(cI, .int), (cB, .byte), (cL, .long), (cZ, .boolean), (cG, .array .int)] [(RO, .inr (7, oX7 FL aRO RO_lying)), (FL, .inr (0, oX0 PL aFL FL_parting)), ((aFL 2), .inl (cI, 64, .inl FL_far)), ((aRO 4), .inl (cI, 2048, .inl RO_rest))] [.ref RO, .int x0, .int x1, .int x2]) (vp_Si (fun r => True)) 0 0 (fun _ => False) := by
  refine Met.ofW (cc := cX7_tourBy) (maxL := 4) (ret := (some .int)) (by decide) rfl ?_
  intro p e s m args below meth c s₁ B hml hv
  obtain ⟨rfl, hP, hK⟩ := hv
  have hx := B.exec
  have hb := B.bytes
  have hr := B.returns
  have hts := atoms_spec (ws := wsX7_tourBy) B.pre
  have hown : s.vm.findClass RX7 = some m.cls := findClass_of_methodNamed B.named
  have hlocks := B.notSynchronized
  clear B
  have hl := lv_entry ([.ref RO, .int x0, .int x1, .int x2]) (n := 4) (Nat.le_of_ble_eq_true rfl)
  rw [lg_entry_eq]
  generalize (lg_sl ([.ref RO, .int x0, .int x1, .int x2]) ++ List.replicate (4 - (lg_sl ([.ref RO, .int x0, .int x1, .int x2])).length) Slot.unset).toArray = ls at hl ⊢
  replace hl : lv_has ls 4 [(0, .ref RO), (1, .int x0), (2, .int x1), (3, .int x2)] := hl
  refine lv_aload_n hx hb dX7_tourBy_0 rfl (lv_at hl 0 rfl) ?_
  refine va_get (D := D) (ci := 7) (v := .ref FL) (C := RX7) (T := TX7) (N := 5) hx hb hts iw_X7_tourBy_X7 hown hK hP 0 rfl rfl 0 (by decide) (hts (.fieldLink RX7 21 "SoldHouse$Routes" "floor" "LSoldHouse$Floor;") (List.mem_of_getElem? (i := 1) rfl)) (fun _ h9 => h9) rfl dX7_tourBy_1 ?_
  refine lv_iload_n hx hb dX7_tourBy_4 rfl (lv_at hl 1 rfl) ?_
  refine lv_iload_n hx hb dX7_tourBy_5 rfl (lv_at hl 2 rfl) ?_
  have hPc := hP.sub (ws' := [(FL, .inr (0, oX0 PL aFL FL_parting)), ((aFL 2), .inl (cI, 64, .inl FL_far))]) [1, 2] rfl
  refine vp_callSi (va_runV (As := [.int x0, .int x1]) (rest := []) ⟨hx, hb, hml, hown, hts⟩ (c_X0_farOf l D cI cB cL cZ cG FL x0 x1 PL aFL FL_parting FL_far b_x0 b_x1 s_FL_far_0) (cwV 2 hts gX7_tourBy_X0_farOf rfl rfl rfl (by decide +kernel) ⟨Nat.le_of_ble_eq_true rfl, Nat.le_of_ble_eq_true rfl⟩) ⟨xr_blind, va_recv hK hP (ci := 0) (q0 := 1) rfl rfl, fun U hU hW => xr_mk hU hW hPc hK⟩ rfl rfl hl.1 rfl (lv_room (Nat.le_of_ble_eq_true rfl)) dX7_tourBy_6 ⟨Nat.le_of_ble_eq_true rfl, Nat.le_of_ble_eq_true rfl⟩).run (fun r6 hr6 => ?_)
  clear hPc
  refine lv_aload_n hx hb dX7_tourBy_9 rfl (lv_at hl 0 rfl) ?_
  refine va_get (D := D) (ci := 7) (v := .ref (aRO 4)) (C := RX7) (T := TX7) (N := 5) hx hb hts iw_X7_tourBy_X7 hown hK hP 0 rfl rfl 4 (by decide) (hts (.fieldLink RX7 18 "SoldHouse$Routes" "rest" "[I") (List.mem_of_getElem? (i := 2) rfl)) (fun _ h9 => h9) rfl dX7_tourBy_10 ?_
  refine lv_iload_n hx hb dX7_tourBy_13 rfl (lv_at hl 3 rfl) ?_
  refine lv_iconst (v := 1) hx hb dX7_tourBy_14 (by decide) ?_
  refine lv_iload_n hx hb dX7_tourBy_15 rfl (lv_at hl 2 rfl) ?_
  refine lv_ishl hx hb dX7_tourBy_16 ?_
  refine zi_top (a := 1) (b := 128) (zB_shl1 b_x1 (by decide) (by decide) (by decide) (by decide)) (fun y16 by16 => ?_)
  refine lv_iconst (v := (-1)) hx hb dX7_tourBy_17 (by decide) ?_
  refine lv_ixor hx hb dX7_tourBy_18 ?_
  refine zi_top (a := (-129)) (b := (-2)) (zB_not by16 (by decide) (by decide)) (fun y18 by18 => ?_)
  refine lv_iand hx hb dX7_tourBy_19 ?_
  refine zi_top (a := 0) (b := 255) (zB_andl b_x2 (by decide)) (fun y19 by19 => ?_)
  refine lv_bipush (v := 8) hx hb dX7_tourBy_20 (by decide) ?_
  refine lv_imul hx hb dX7_tourBy_22 ?_
  refine zi_top (a := 0) (b := 2040) (zB_mul by19 (show zB 8 8 8 from ⟨by decide, by decide⟩) (by decide) (by decide) (by decide) (by decide) (by decide)) (fun y22 by22 => ?_)
  refine lv_iload_n hx hb dX7_tourBy_23 rfl (lv_at hl 2 rfl) ?_
  refine lv_iadd hx hb dX7_tourBy_24 ?_
  refine zi_top (a := 0) (b := 2047) (zB_add by22 b_x1 (by decide) (by decide) (by decide) (by decide)) (fun y24 by24 => ?_)
  refine va_iald hx hb hK hP 3 0 rfl rfl (zB_in by24 (by decide) (by decide)) dX7_tourBy_25 ?_
  refine lv_topi (fun y25 _ => ?_)
  refine lv_iadd hx hb dX7_tourBy_26 ?_
  refine lv_topi (fun y26 _ => ?_)
  exact W.iret (v := y26) hx hb hr (fun t ht hW => ⟨y26, rfl, trivial, ht⟩) (fun q hq => by cases hq) dX7_tourBy_27
set_option maxHeartbeats 4000000 in
set_option maxRecDepth 100000 in
theorem c_X7_nextOnTour (l : Launch) (D : va_G) (cI : ClassId) (cB : ClassId) (cL : ClassId) (cZ : ClassId) (cG : ClassId) (RO : Nat) (x0 : Int32) (x1 : Int32) (FL : Nat) (aRO : Nat → Nat) (RO_lying : Int32) (PL : Nat) (aFL : Nat → Nat) (FL_parting : Int32) (PL_rooms : Int32) (aPL : Nat → Nat) (PL_doors : Int32) (PL_things : Int32) (FO : Nat) (PL_draw : Int32) (PL_drawTold : Int32) (FL_far : Nat → Int32) (RO_rest : Nat → Int32) (b_x0 : zB x0 0 7) (b_x1 : zB x1 0 255) (b_RO_lying : zB RO_lying 0 8) (b_PL_rooms : zB PL_rooms 0 8) (b_PL_doors : zB PL_doors 0 12) (b_PL_things : zB PL_things 0 6) (s_FL_far_0 : zA FL_far 0 64 (-1) 7) : Met l yX7_nextOnTour wsX7_nextOnTour ({ frames := 2, cells := 0, slots := 0, locals := 45 }) (xr D [(cI, .int), (cB, .byte), (cL, .long), (cZ, .boolean), (cG, .array .int)] [(RO, .inr (7, oX7 FL aRO RO_lying)), (FL, .inr (0, oX0 PL aFL FL_parting)), (PL, .inr (5, oX5 FO aPL PL_rooms PL_doors PL_things PL_draw PL_drawTold)), ((aFL 2), .inl (cI, 64, .inl FL_far)), ((aRO 4), .inl (cI, 2048, .inl RO_rest))] [.ref RO, .int x0, .int x1]) (vp_Si (fun r => zB r 0 7)) 0 0 (fun _ => False) := by
  refine Met.ofW (cc := cX7_nextOnTour) (maxL := 6) (ret := (some .int)) (by decide) rfl ?_
  intro p e s m args below meth c s₁ B hml hv
  obtain ⟨rfl, hP, hK⟩ := hv
  have hx := B.exec
  have hb := B.bytes
  have hr := B.returns
  have hts := atoms_spec (ws := wsX7_nextOnTour) B.pre
  have hown : s.vm.findClass RX7 = some m.cls := findClass_of_methodNamed B.named
  have hlocks := B.notSynchronized
  clear B
  have hl := lv_entry ([.ref RO, .int x0, .int x1]) (n := 6) (Nat.le_of_ble_eq_true rfl)
  rw [lg_entry_eq]
  generalize (lg_sl ([.ref RO, .int x0, .int x1]) ++ List.replicate (6 - (lg_sl ([.ref RO, .int x0, .int x1])).length) Slot.unset).toArray = ls at hl ⊢
  replace hl : lv_has ls 6 [(0, .ref RO), (1, .int x0), (2, .int x1)] := hl
  refine zz_abs (R := ({ frames := 2, cells := 0, slots := 0, locals := 45 } : Room)) (fun Q up => ?_)
  refine lv_iload_n hx hb dX7_nextOnTour_0 rfl (lv_at hl 1 rfl) ?_
  refine lv_istore_n (lv' := [(3, .int x0), (0, .ref RO), (1, .int x0), (2, .int x1)]) hx hb dX7_nextOnTour_1 rfl hl (by decide) rfl (fun ls hl => ?_)
  refine lv_ldc hx hb hown (hts (.constant RX7 85 (1048576)) (List.mem_of_getElem? (i := 1) rfl)) dX7_nextOnTour_2 ?_
  refine lv_istore (lv' := [(4, .int 1048576), (3, .int x0), (0, .ref RO), (1, .int x0), (2, .int x1)]) hx hb dX7_nextOnTour_4 hl (by decide) rfl (fun ls hl => ?_)
  refine lv_iconst (v := 0) hx hb dX7_nextOnTour_6 (by decide) ?_
  have j9 : ∀ (n9 : Nat) (ls : Array Slot) (v9_5 : Int32) (v9_4 : Int32) (v9_3 : Int32), zB v9_5 0 8 → zB v9_3 0 7 → zA FL_far 0 64 (-1) 7 → (8 + 1 - v9_5.toInt) ≤ (n9 : Int) → lv_has ls 6 [(5, .int v9_5), (4, .int v9_4), (3, .int v9_3), (0, .ref RO), (1, .int x0), (2, .int x1)] → W p l e ({ frames := 2, cells := 0, slots := 0, locals := 45 } : Room) s m ([.ref RO, .int x0, .int x1] : List Value).toArray below meth c s.heap [] 0 0 Q (F0 m 9 ls []) := by
    intro n9
    induction n9 with
    | zero => intro ls v9_5 v9_4 v9_3 bv9_5_k9 bv9_3_k9 sFL_far_0_k9 hm9 hl; exact zM_u0 bv9_5_k9 hm9
    | succ n9 ih9 =>
      intro ls v9_5 v9_4 v9_3 bv9_5_k9 bv9_3_k9 sFL_far_0_k9 hm9 hl
      refine lv_iload hx hb dX7_nextOnTour_9 (lv_at hl 0 rfl) ?_
      refine lv_aload_n hx hb dX7_nextOnTour_11 rfl (lv_at hl 3 rfl) ?_
      refine va_get (D := D) (ci := 7) (v := .ref FL) (C := RX7) (T := TX7) (N := 5) hx hb hts iw_X7_nextOnTour_X7 hown hK hP 0 rfl rfl 0 (by decide) (hts (.fieldLink RX7 21 "SoldHouse$Routes" "floor" "LSoldHouse$Floor;") (List.mem_of_getElem? (i := 2) rfl)) (fun _ h9 => h9) rfl dX7_nextOnTour_12 ?_
      refine va_get (D := D) (ci := 0) (v := .ref PL) (C := RX0) (T := TX0) (N := 5) hx hb hts iw_X7_nextOnTour_X0 hown hK hP 1 rfl rfl 0 (by decide) (hts (.fieldLink RX7 52 "SoldHouse$Floor" "plan" "LSoldHouse$Plan;") (List.mem_of_getElem? (i := 3) rfl)) (fun _ h9 => h9) rfl dX7_nextOnTour_15 ?_
      refine va_get (D := D) (ci := 5) (v := .int PL_rooms) (C := RX5) (T := TX5) (N := 16) hx hb hts iw_X7_nextOnTour_X5 hown hK hP 2 rfl rfl 0 (by decide) (hts (.fieldLink RX7 56 "SoldHouse$Plan" "rooms" "I") (List.mem_of_getElem? (i := 4) rfl)) (fun _ h9 => h9) rfl dX7_nextOnTour_18 ?_
      refine lv_icmp_ge (tgt := 66) hx hb dX7_nextOnTour_21 (by decide) (fun c21 => ?_) (fun c21 => ?_)
      · refine lv_iload_n hx hb dX7_nextOnTour_66 rfl (lv_at hl 2 rfl) ?_
        exact up _ _ _ (W.iret (v := v9_3) hx hb hr (fun t ht hW => ⟨v9_3, rfl, bv9_3_k9, ht⟩) (fun q hq => by cases hq) dX7_nextOnTour_67)
      · have bx21f_v9_5 : zB v9_5 0 7 := zB_ltu (zf c21) bv9_5_k9 b_PL_rooms (by decide)
        have by21f_PL_rooms : zB PL_rooms 1 8 := zB_ltv (zf c21) bx21f_v9_5 b_PL_rooms (by decide)
        refine lv_iload_n hx hb dX7_nextOnTour_24 rfl (lv_at hl 5 rfl) ?_
        refine lv_iload hx hb dX7_nextOnTour_25 (lv_at hl 0 rfl) ?_
        refine lv_ishr hx hb dX7_nextOnTour_27 ?_
        refine zi_top (a := 0) (b := 255) (zB_shr b_x1 (by decide)) (fun y27 by27 => ?_)
        refine lv_iconst (v := 1) hx hb dX7_nextOnTour_28 (by decide) ?_
        refine lv_iand hx hb dX7_nextOnTour_29 ?_
        refine zi_top (a := 0) (b := 1) (zB_andr (show zB 1 1 1 from ⟨by decide, by decide⟩) (by decide)) (fun y29 by29 => ?_)
        refine lv_iconst (v := 1) hx hb dX7_nextOnTour_30 (by decide) ?_
        have j60 : ∀ (ls : Array Slot) (v60_4 : Int32) (v60_3 : Int32), zB v60_3 0 7 → zA FL_far 0 64 (-1) 7 → lv_has ls 6 [(5, .int v9_5), (4, .int v60_4), (3, .int v60_3), (0, .ref RO), (1, .int x0), (2, .int x1)] → W p l e ({ frames := 2, cells := 0, slots := 0, locals := 45 } : Room) s m ([.ref RO, .int x0, .int x1] : List Value).toArray below meth c s.heap [] 0 0 Q (F0 m 60 ls []) := by
          intro ls v60_4 v60_3 bv60_3_k60 sFL_far_0_k60 hl
          obtain ⟨y60, by60, ry60, ey60⟩ := zi_inc (x := v9_5) (k := 1) (a := 1) (b := 8) bx21f_v9_5 (by decide) (by decide) (by decide) (by decide) (by decide)
          refine lv_iinc (v := y60) (lv' := [(5, .int y60), (4, .int v60_4), (3, .int v60_3), (0, .ref RO), (1, .int x0), (2, .int x1)]) hx hb dX7_nextOnTour_60 hl (k := 0) rfl ey60 (by decide) rfl (fun ls hl => ?_)
          refine lv_goto (tgt := 9) hx hb dX7_nextOnTour_63 (by decide) ?_
          exact ih9 ls y60 v60_4 v60_3 (zB_w by60 (by decide) (by decide)) bv60_3_k60 sFL_far_0_k60 (zM_us (k := 1) hm9 ry60 (by decide)) (lv_sub hl [0, 1, 2, 3, 4, 5] rfl)
        refine lv_icmp_ne (tgt := 60) hx hb dX7_nextOnTour_31 (by decide) (fun c31 => ?_) (fun c31 => ?_)
        · have bn31t_y29 : zB y29 0 0 := zB_neH c31 by29 (show zB 1 1 1 from ⟨by decide, by decide⟩) (by decide)
          exact j60 ls v9_4 v9_3 bv9_3_k9 sFL_far_0_k9 (lv_sub hl [0, 1, 2, 3, 4, 5] rfl)
        · have be31f_y29 : zB y29 1 1 := zB_eq c31 by29 (show zB 1 1 1 from ⟨by decide, by decide⟩) (by decide) (by decide)
          refine lv_aload_n hx hb dX7_nextOnTour_34 rfl (lv_at hl 3 rfl) ?_
          refine lv_iload_n hx hb dX7_nextOnTour_35 rfl (lv_at hl 4 rfl) ?_
          refine lv_iload hx hb dX7_nextOnTour_36 (lv_at hl 0 rfl) ?_
          refine lv_iload_n hx hb dX7_nextOnTour_38 rfl (lv_at hl 5 rfl) ?_
          have hPc := hP.sub (ws' := [(RO, .inr (7, oX7 FL aRO RO_lying)), (FL, .inr (0, oX0 PL aFL FL_parting)), ((aFL 2), .inl (cI, 64, .inl FL_far)), ((aRO 4), .inl (cI, 2048, .inl RO_rest))]) [0, 1, 3, 4] rfl
          refine vp_callSi (va_runV (As := [.int x0, .int v9_5, .int x1]) (rest := []) ⟨hx, hb, hml, hown, hts⟩ (c_X7_tourBy l D cI cB cL cZ cG RO x0 v9_5 x1 FL aRO RO_lying PL aFL FL_parting FL_far RO_rest b_x0 bx21f_v9_5 b_x1 b_RO_lying sFL_far_0_k9) (cwV 3 hts gX7_nextOnTour_X7_tourBy rfl rfl rfl (by decide +kernel) ⟨Nat.le_of_ble_eq_true rfl, Nat.le_of_ble_eq_true rfl⟩) ⟨xr_blind, va_recv hK hP (ci := 7) (q0 := 0) rfl rfl, fun U hU hW => xr_mk hU hW hPc hK⟩ rfl rfl hl.1 rfl (lv_room (Nat.le_of_ble_eq_true rfl)) dX7_nextOnTour_39 ⟨Nat.le_of_ble_eq_true rfl, Nat.le_of_ble_eq_true rfl⟩).run (fun r39 hr39 => ?_)
          clear hPc
          clear hr39
          refine lv_iload hx hb dX7_nextOnTour_42 (lv_at hl 1 rfl) ?_
          refine lv_icmp_ge (tgt := 60) hx hb dX7_nextOnTour_44 (by decide) (fun c44 => ?_) (fun c44 => ?_)
          · exact j60 ls v9_4 v9_3 bv9_3_k9 sFL_far_0_k9 (lv_sub hl [0, 1, 2, 3, 4, 5] rfl)
          · have bx44f_r39 : zB r39 (-2147483648) 2147483646 := zB_ltu (zf c44) (zB_top r39) (zB_top v9_4) (by decide)
            have by44f_v9_4 : zB v9_4 (-2147483647) 2147483647 := zB_ltv (zf c44) bx44f_r39 (zB_top v9_4) (by decide)
            refine lv_aload_n hx hb dX7_nextOnTour_47 rfl (lv_at hl 3 rfl) ?_
            refine lv_iload_n hx hb dX7_nextOnTour_48 rfl (lv_at hl 4 rfl) ?_
            refine lv_iload hx hb dX7_nextOnTour_49 (lv_at hl 0 rfl) ?_
            refine lv_iload_n hx hb dX7_nextOnTour_51 rfl (lv_at hl 5 rfl) ?_
            have hPc := hP.sub (ws' := [(RO, .inr (7, oX7 FL aRO RO_lying)), (FL, .inr (0, oX0 PL aFL FL_parting)), ((aFL 2), .inl (cI, 64, .inl FL_far)), ((aRO 4), .inl (cI, 2048, .inl RO_rest))]) [0, 1, 3, 4] rfl
            refine vp_callSi (va_runV (As := [.int x0, .int v9_5, .int x1]) (rest := []) ⟨hx, hb, hml, hown, hts⟩ (c_X7_tourBy l D cI cB cL cZ cG RO x0 v9_5 x1 FL aRO RO_lying PL aFL FL_parting FL_far RO_rest b_x0 bx21f_v9_5 b_x1 b_RO_lying sFL_far_0_k9) (cwV 3 hts gX7_nextOnTour_X7_tourBy rfl rfl rfl (by decide +kernel) ⟨Nat.le_of_ble_eq_true rfl, Nat.le_of_ble_eq_true rfl⟩) ⟨xr_blind, va_recv hK hP (ci := 7) (q0 := 0) rfl rfl, fun U hU hW => xr_mk hU hW hPc hK⟩ rfl rfl hl.1 rfl (lv_room (Nat.le_of_ble_eq_true rfl)) dX7_nextOnTour_52 ⟨Nat.le_of_ble_eq_true rfl, Nat.le_of_ble_eq_true rfl⟩).run (fun r52 hr52 => ?_)
            clear hPc
            clear hr52
            refine lv_istore (lv' := [(4, .int r52), (5, .int v9_5), (3, .int v9_3), (0, .ref RO), (1, .int x0), (2, .int x1)]) hx hb dX7_nextOnTour_55 hl (by decide) rfl (fun ls hl => ?_)
            refine lv_iload hx hb dX7_nextOnTour_57 (lv_at hl 1 rfl) ?_
            refine lv_istore_n (lv' := [(3, .int v9_5), (4, .int r52), (5, .int v9_5), (0, .ref RO), (1, .int x0), (2, .int x1)]) hx hb dX7_nextOnTour_59 rfl hl (by decide) rfl (fun ls hl => ?_)
            exact j60 ls r52 v9_5 bx21f_v9_5 sFL_far_0_k9 (lv_sub hl [2, 1, 0, 3, 4, 5] rfl)
  refine lv_istore (lv' := [(5, .int 0), (4, .int 1048576), (3, .int x0), (0, .ref RO), (1, .int x0), (2, .int x1)]) hx hb dX7_nextOnTour_7 hl (by decide) rfl (fun ls hl => ?_)
  exact j9 9 ls 0 1048576 x0 (zB_w (show zB 0 0 0 from ⟨by decide, by decide⟩) (by decide) (by decide)) b_x0 s_FL_far_0 (zM_ui (show zB 0 0 0 from ⟨by decide, by decide⟩) (by decide)) (lv_sub hl [0, 1, 2, 3, 4, 5] rfl)
set_option maxHeartbeats 4000000 in
set_option maxRecDepth 100000 in
theorem c_X7_measureTours (l : Launch) (D : va_G) (cI : ClassId) (cB : ClassId) (cL : ClassId) (cZ : ClassId) (cG : ClassId) (RO : Nat) (x0 : Int32) (x1 : Int32) (FL : Nat) (aRO : Nat → Nat) (RO_lying : Int32) (PL : Nat) (aFL : Nat → Nat) (FL_parting : Int32) (PL_rooms : Int32) (aPL : Nat → Nat) (PL_doors : Int32) (PL_things : Int32) (FO : Nat) (PL_draw : Int32) (PL_drawTold : Int32) (FL_far : Nat → Int32) (RO_rest : Nat → Int32) (sz : Nat) (b_x0 : zB x0 0 255) (b_RO_lying : zB RO_lying 0 8) (b_PL_rooms : zB PL_rooms 0 8) (b_PL_doors : zB PL_doors 0 12) (b_PL_things : zB PL_things 0 6) (s_FL_far_0 : zA FL_far 0 64 (-1) 7) : Met l yX7_measureTours wsX7_measureTours ({ frames := 3, cells := 0, slots := 0, locals := 70 }) (xp D [(cI, .int), (cB, .byte), (cL, .long), (cZ, .boolean), (cG, .array .int)] [(RO, .inr (7, oX7 FL aRO RO_lying)), (FL, .inr (0, oX0 PL aFL FL_parting)), (PL, .inr (5, oX5 FO aPL PL_rooms PL_doors PL_things PL_draw PL_drawTold)), ((aFL 2), .inl (cI, 64, .inl FL_far)), ((aRO 4), .inl (cI, 2048, .inl RO_rest))] sz [] [.ref RO, .int x0, .int x1]) (va_Qv (fun _ : Unit => True) (fun (_ : Unit) (t : State) => ∃ (nROrest : Nat → Int32), xB D (va_A [(RO, .inr (7, oX7 FL aRO RO_lying)), (FL, .inr (0, oX0 PL aFL FL_parting)), (PL, .inr (5, oX5 FO aPL PL_rooms PL_doors PL_things PL_draw PL_drawTold)), ((aFL 2), .inl (cI, 64, .inl FL_far)), ((aRO 4), .inl (cI, 2048, .inl RO_rest))] sz) [(RO, .inr (7, oX7 FL aRO RO_lying)), (FL, .inr (0, oX0 PL aFL FL_parting)), (PL, .inr (5, oX5 FO aPL PL_rooms PL_doors PL_things PL_draw PL_drawTold)), ((aFL 2), .inl (cI, 64, .inl FL_far)), ((aRO 4), .inl (cI, 2048, .inl nROrest))] t) (va_A [(RO, .inr (7, oX7 FL aRO RO_lying)), (FL, .inr (0, oX0 PL aFL FL_parting)), (PL, .inr (5, oX5 FO aPL PL_rooms PL_doors PL_things PL_draw PL_drawTold)), ((aFL 2), .inl (cI, 64, .inl FL_far)), ((aRO 4), .inl (cI, 2048, .inl RO_rest))] sz)) 0 0 (va_A [(RO, .inr (7, oX7 FL aRO RO_lying)), (FL, .inr (0, oX0 PL aFL FL_parting)), (PL, .inr (5, oX5 FO aPL PL_rooms PL_doors PL_things PL_draw PL_drawTold)), ((aFL 2), .inl (cI, 64, .inl FL_far)), ((aRO 4), .inl (cI, 2048, .inl RO_rest))] sz) := by
  refine Met.ofW (cc := cX7_measureTours) (maxL := 4) (ret := none) (by decide) rfl ?_
  intro p e s m args below meth c s₁ B hml hv
  obtain ⟨rfl, hsz, hP, hK, hD0, hNw⟩ := hv
  have hx := B.exec
  have hb := B.bytes
  have hr := B.returns
  have hts := atoms_spec (ws := wsX7_measureTours) B.pre
  have hown : s.vm.findClass RX7 = some m.cls := findClass_of_methodNamed B.named
  have hlocks := B.notSynchronized
  clear B
  subst hsz
  have hD := hD0.self (sz := s.heap.size)
  clear hD0 hNw
  generalize hAe : va_A [(RO, .inr (7, oX7 FL aRO RO_lying)), (FL, .inr (0, oX0 PL aFL FL_parting)), (PL, .inr (5, oX5 FO aPL PL_rooms PL_doors PL_things PL_draw PL_drawTold)), ((aFL 2), .inl (cI, 64, .inl FL_far)), ((aRO 4), .inl (cI, 2048, .inl RO_rest))] s.heap.size = A at hD ⊢
  have hA : ∀ q : Nat, s.heap.size ≤ q → A q := fun q h => by rw [← hAe]; exact Or.inr h
  have hS : va_S A s.heap s.heap [] := va_S.rf
  clear hAe
  obtain ⟨H, hH⟩ : ∃ H : Heap, H = s.heap := ⟨_, rfl⟩
  obtain ⟨locs, hlocs⟩ : ∃ L : List Loc, L = [] := ⟨_, rfl⟩
  replace hP : va_P D classes [(RO, .inr (7, oX7 FL aRO RO_lying)), (FL, .inr (0, oX0 PL aFL FL_parting)), (PL, .inr (5, oX5 FO aPL PL_rooms PL_doors PL_things PL_draw PL_drawTold)), ((aFL 2), .inl (cI, 64, .inl FL_far)), ((aRO 4), .inl (cI, 2048, .inl RO_rest))] H := by rw [hH]; exact hP
  replace hS : va_S A s.heap H locs := by rw [hH, hlocs]; exact hS
  rw [← hH, ← hlocs]
  clear hlocs hH
  have hl := lv_entry ([.ref RO, .int x0, .int x1]) (n := 4) (Nat.le_of_ble_eq_true rfl)
  rw [lg_entry_eq]
  generalize (lg_sl ([.ref RO, .int x0, .int x1]) ++ List.replicate (4 - (lg_sl ([.ref RO, .int x0, .int x1])).length) Slot.unset).toArray = ls at hl ⊢
  replace hl : lv_has ls 4 [(0, .ref RO), (1, .int x0), (2, .int x1)] := hl
  refine zz_abs (R := ({ frames := 3, cells := 0, slots := 0, locals := 70 } : Room)) (fun Q up => ?_)
  refine lv_iconst (v := 0) hx hb dX7_measureTours_0 (by decide) ?_
  have j2 : ∀ (n2 : Nat) (H : Heap) (locs : List Loc) (ls : Array Slot) (v2_3 : Int32) (g2_aRO4 : Nat → Int32), zB v2_3 0 8 → zA FL_far 0 64 (-1) 7 → (8 + 1 - v2_3.toInt) ≤ (n2 : Int) → va_P D classes [(RO, .inr (7, oX7 FL aRO RO_lying)), (FL, .inr (0, oX0 PL aFL FL_parting)), (PL, .inr (5, oX5 FO aPL PL_rooms PL_doors PL_things PL_draw PL_drawTold)), ((aFL 2), .inl (cI, 64, .inl FL_far)), ((aRO 4), .inl (cI, 2048, .inl g2_aRO4))] H → va_D A [(RO, .inr (7, oX7 FL aRO RO_lying)), (FL, .inr (0, oX0 PL aFL FL_parting)), (PL, .inr (5, oX5 FO aPL PL_rooms PL_doors PL_things PL_draw PL_drawTold)), ((aFL 2), .inl (cI, 64, .inl FL_far)), ((aRO 4), .inl (cI, 2048, .inl g2_aRO4))] → va_S A s.heap H locs → lv_has ls 4 [(3, .int v2_3), (0, .ref RO), (1, .int x0), (2, .int x1)] → W p l e ({ frames := 3, cells := 0, slots := 0, locals := 70 } : Room) s m ([.ref RO, .int x0, .int x1] : List Value).toArray below meth c H locs 0 0 Q (F0 m 2 ls []) := by
    intro n2
    induction n2 with
    | zero => intro H locs ls v2_3 g2_aRO4 bv2_3_k2 sFL_far_0_k2 hm2 hP hD hS hl; exact zM_u0 bv2_3_k2 hm2
    | succ n2 ih2 =>
      intro H locs ls v2_3 g2_aRO4 bv2_3_k2 sFL_far_0_k2 hm2 hP hD hS hl
      refine lv_iload_n hx hb dX7_measureTours_2 rfl (lv_at hl 0 rfl) ?_
      refine lv_aload_n hx hb dX7_measureTours_3 rfl (lv_at hl 1 rfl) ?_
      refine va_get (D := D) (ci := 7) (v := .ref FL) (C := RX7) (T := TX7) (N := 5) hx hb hts iw_X7_measureTours_X7 hown hK hP 0 rfl rfl 0 (by decide) (hts (.fieldLink RX7 21 "SoldHouse$Routes" "floor" "LSoldHouse$Floor;") (List.mem_of_getElem? (i := 1) rfl)) (fun _ h9 => h9) rfl dX7_measureTours_4 ?_
      refine va_get (D := D) (ci := 0) (v := .ref PL) (C := RX0) (T := TX0) (N := 5) hx hb hts iw_X7_measureTours_X0 hown hK hP 1 rfl rfl 0 (by decide) (hts (.fieldLink RX7 52 "SoldHouse$Floor" "plan" "LSoldHouse$Plan;") (List.mem_of_getElem? (i := 2) rfl)) (fun _ h9 => h9) rfl dX7_measureTours_7 ?_
      refine va_get (D := D) (ci := 5) (v := .int PL_rooms) (C := RX5) (T := TX5) (N := 16) hx hb hts iw_X7_measureTours_X5 hown hK hP 2 rfl rfl 0 (by decide) (hts (.fieldLink RX7 56 "SoldHouse$Plan" "rooms" "I") (List.mem_of_getElem? (i := 3) rfl)) (fun _ h9 => h9) rfl dX7_measureTours_10 ?_
      refine lv_icmp_ge (tgt := 62) hx hb dX7_measureTours_13 (by decide) (fun c13 => ?_) (fun c13 => ?_)
      · exact up _ _ _ (W.vret hx hb hr (fun t ht hW => ⟨⟨(), rfl, trivial, ⟨g2_aRO4, by rw [ht]; exact hP, hD⟩⟩, hS.F ht⟩) hS.2.2 dX7_measureTours_62)
      · have bx13f_v2_3 : zB v2_3 0 7 := zB_ltu (zf c13) bv2_3_k2 b_PL_rooms (by decide)
        have by13f_PL_rooms : zB PL_rooms 1 8 := zB_ltv (zf c13) bx13f_v2_3 b_PL_rooms (by decide)
        refine lv_iload_n hx hb dX7_measureTours_16 rfl (lv_at hl 3 rfl) ?_
        refine lv_iload_n hx hb dX7_measureTours_17 rfl (lv_at hl 0 rfl) ?_
        refine lv_ishr hx hb dX7_measureTours_18 ?_
        refine lv_topi (fun y18 _ => ?_)
        refine lv_iconst (v := 1) hx hb dX7_measureTours_19 (by decide) ?_
        refine lv_iand hx hb dX7_measureTours_20 ?_
        refine zi_top (a := 0) (b := 1) (zB_andr (show zB 1 1 1 from ⟨by decide, by decide⟩) (by decide)) (fun y20 by20 => ?_)
        refine lv_iconst (v := 1) hx hb dX7_measureTours_21 (by decide) ?_
        have j56 : ∀ (H : Heap) (locs : List Loc) (ls : Array Slot) (g56_aRO4 : Nat → Int32), zA FL_far 0 64 (-1) 7 → va_P D classes [(RO, .inr (7, oX7 FL aRO RO_lying)), (FL, .inr (0, oX0 PL aFL FL_parting)), (PL, .inr (5, oX5 FO aPL PL_rooms PL_doors PL_things PL_draw PL_drawTold)), ((aFL 2), .inl (cI, 64, .inl FL_far)), ((aRO 4), .inl (cI, 2048, .inl g56_aRO4))] H → va_D A [(RO, .inr (7, oX7 FL aRO RO_lying)), (FL, .inr (0, oX0 PL aFL FL_parting)), (PL, .inr (5, oX5 FO aPL PL_rooms PL_doors PL_things PL_draw PL_drawTold)), ((aFL 2), .inl (cI, 64, .inl FL_far)), ((aRO 4), .inl (cI, 2048, .inl g56_aRO4))] → va_S A s.heap H locs → lv_has ls 4 [(3, .int v2_3), (0, .ref RO), (1, .int x0), (2, .int x1)] → W p l e ({ frames := 3, cells := 0, slots := 0, locals := 70 } : Room) s m ([.ref RO, .int x0, .int x1] : List Value).toArray below meth c H locs 0 0 Q (F0 m 56 ls []) := by
          intro H locs ls g56_aRO4 sFL_far_0_k56 hP hD hS hl
          obtain ⟨y56, by56, ry56, ey56⟩ := zi_inc (x := v2_3) (k := 1) (a := 1) (b := 8) bx13f_v2_3 (by decide) (by decide) (by decide) (by decide) (by decide)
          refine lv_iinc (v := y56) (lv' := [(3, .int y56), (0, .ref RO), (1, .int x0), (2, .int x1)]) hx hb dX7_measureTours_56 hl (k := 0) rfl ey56 (by decide) rfl (fun ls hl => ?_)
          refine lv_goto (tgt := 2) hx hb dX7_measureTours_59 (by decide) ?_
          exact ih2 H locs ls y56 g56_aRO4 (zB_w by56 (by decide) (by decide)) sFL_far_0_k56 (zM_us (k := 1) hm2 ry56 (by decide)) hP hD hS (lv_sub hl [0, 1, 2, 3] rfl)
        refine lv_icmp_ne (tgt := 56) hx hb dX7_measureTours_22 (by decide) (fun c22 => ?_) (fun c22 => ?_)
        · have bn22t_y20 : zB y20 0 0 := zB_neH c22 by20 (show zB 1 1 1 from ⟨by decide, by decide⟩) (by decide)
          exact j56 H locs ls g2_aRO4 sFL_far_0_k2 hP hD hS (lv_sub hl [0, 1, 2, 3] rfl)
        · have be22f_y20 : zB y20 1 1 := zB_eq c22 by20 (show zB 1 1 1 from ⟨by decide, by decide⟩) (by decide) (by decide)
          refine lv_aload_n hx hb dX7_measureTours_25 rfl (lv_at hl 1 rfl) ?_
          refine va_get (D := D) (ci := 7) (v := .ref (aRO 4)) (C := RX7) (T := TX7) (N := 5) hx hb hts iw_X7_measureTours_X7 hown hK hP 0 rfl rfl 4 (by decide) (hts (.fieldLink RX7 18 "SoldHouse$Routes" "rest" "[I") (List.mem_of_getElem? (i := 4) rfl)) (fun _ h9 => h9) rfl dX7_measureTours_26 ?_
          refine lv_iload_n hx hb dX7_measureTours_29 rfl (lv_at hl 2 rfl) ?_
          refine lv_bipush (v := 8) hx hb dX7_measureTours_30 (by decide) ?_
          refine lv_imul hx hb dX7_measureTours_32 ?_
          refine zi_top (a := 0) (b := 2040) (zB_mul b_x0 (show zB 8 8 8 from ⟨by decide, by decide⟩) (by decide) (by decide) (by decide) (by decide) (by decide)) (fun y32 by32 => ?_)
          refine lv_iload_n hx hb dX7_measureTours_33 rfl (lv_at hl 0 rfl) ?_
          refine lv_iadd hx hb dX7_measureTours_34 ?_
          refine zi_top (a := 0) (b := 2047) (zB_add by32 bx13f_v2_3 (by decide) (by decide) (by decide) (by decide)) (fun y34 by34 => ?_)
          refine lv_iload_n hx hb dX7_measureTours_35 rfl (lv_at hl 2 rfl) ?_
          have j55 : ∀ (H : Heap) (locs : List Loc) (ls : Array Slot) (u55_0 : Int32), zA FL_far 0 64 (-1) 7 → va_P D classes [(RO, .inr (7, oX7 FL aRO RO_lying)), (FL, .inr (0, oX0 PL aFL FL_parting)), (PL, .inr (5, oX5 FO aPL PL_rooms PL_doors PL_things PL_draw PL_drawTold)), ((aFL 2), .inl (cI, 64, .inl FL_far)), ((aRO 4), .inl (cI, 2048, .inl g2_aRO4))] H → va_D A [(RO, .inr (7, oX7 FL aRO RO_lying)), (FL, .inr (0, oX0 PL aFL FL_parting)), (PL, .inr (5, oX5 FO aPL PL_rooms PL_doors PL_things PL_draw PL_drawTold)), ((aFL 2), .inl (cI, 64, .inl FL_far)), ((aRO 4), .inl (cI, 2048, .inl g2_aRO4))] → va_S A s.heap H locs → lv_has ls 4 [(3, .int v2_3), (0, .ref RO), (1, .int x0), (2, .int x1)] → W p l e ({ frames := 3, cells := 0, slots := 0, locals := 70 } : Room) s m ([.ref RO, .int x0, .int x1] : List Value).toArray below meth c H locs 0 0 Q (F0 m 55 ls [.int u55_0, .int y34, .ref (aRO 4)]) := by
            intro H locs ls u55_0 sFL_far_0_k55 hP hD hS hl
            refine zi_iast hx hb hK hP hD hS 4 0 rfl rfl (zB_in by34 (by decide) (by decide)) dX7_measureTours_55 (fun H locs g55 eg55 hP hD hS => ?_)
            replace hP : va_P D classes [(RO, .inr (7, oX7 FL aRO RO_lying)), (FL, .inr (0, oX0 PL aFL FL_parting)), (PL, .inr (5, oX5 FO aPL PL_rooms PL_doors PL_things PL_draw PL_drawTold)), ((aFL 2), .inl (cI, 64, .inl FL_far)), ((aRO 4), .inl (cI, 2048, .inl g55))] H := hP
            replace hD : va_D A [(RO, .inr (7, oX7 FL aRO RO_lying)), (FL, .inr (0, oX0 PL aFL FL_parting)), (PL, .inr (5, oX5 FO aPL PL_rooms PL_doors PL_things PL_draw PL_drawTold)), ((aFL 2), .inl (cI, 64, .inl FL_far)), ((aRO 4), .inl (cI, 2048, .inl g55))] := hD
            clear eg55
            exact j56 H locs ls g55 sFL_far_0_k55 hP hD hS (lv_sub hl [0, 1, 2, 3] rfl)
          refine lv_if_ne (tgt := 43) hx hb dX7_measureTours_36 (by decide) (fun c36 => ?_) (fun c36 => ?_)
          · have bn36t_x0 : zB x0 1 255 := zB_neL c36 b_x0 (show zB 0 0 0 from ⟨by decide, by decide⟩) (by decide)
            refine lv_aload_n hx hb dX7_measureTours_43 rfl (lv_at hl 1 rfl) ?_
            refine lv_iload_n hx hb dX7_measureTours_44 rfl (lv_at hl 0 rfl) ?_
            refine lv_aload_n hx hb dX7_measureTours_45 rfl (lv_at hl 1 rfl) ?_
            refine lv_iload_n hx hb dX7_measureTours_46 rfl (lv_at hl 0 rfl) ?_
            refine lv_iload_n hx hb dX7_measureTours_47 rfl (lv_at hl 2 rfl) ?_
            have hPc := hP.sub (ws' := [(RO, .inr (7, oX7 FL aRO RO_lying)), (FL, .inr (0, oX0 PL aFL FL_parting)), (PL, .inr (5, oX5 FO aPL PL_rooms PL_doors PL_things PL_draw PL_drawTold)), ((aFL 2), .inl (cI, 64, .inl FL_far)), ((aRO 4), .inl (cI, 2048, .inl g2_aRO4))]) [0, 1, 2, 3, 4] rfl
            refine vp_callSi (va_runV (As := [.int v2_3, .int x0]) (rest := [.int v2_3, .ref RO, .int y34, .ref (aRO 4)]) ⟨hx, hb, hml, hown, hts⟩ (c_X7_nextOnTour l D cI cB cL cZ cG RO v2_3 x0 FL aRO RO_lying PL aFL FL_parting PL_rooms aPL PL_doors PL_things FO PL_draw PL_drawTold FL_far g2_aRO4 bx13f_v2_3 (zB_w bn36t_x0 (by decide) (by decide)) b_RO_lying (zB_w by13f_PL_rooms (by decide) (by decide)) b_PL_doors b_PL_things sFL_far_0_k2) (cwV 2 hts gX7_measureTours_X7_nextOnTour rfl rfl rfl (by decide +kernel) ⟨Nat.le_of_ble_eq_true rfl, Nat.le_of_ble_eq_true rfl⟩) ⟨xr_blind, va_recv hK hP (ci := 7) (q0 := 0) rfl rfl, fun U hU hW => xr_mk hU hW hPc hK⟩ rfl rfl hl.1 rfl (lv_room (Nat.le_of_ble_eq_true rfl)) dX7_measureTours_48 ⟨Nat.le_of_ble_eq_true rfl, Nat.le_of_ble_eq_true rfl⟩).run (fun r48 hr48 => ?_)
            clear hPc
            refine lv_iload_n hx hb dX7_measureTours_51 rfl (lv_at hl 2 rfl) ?_
            have hPc := hP.sub (ws' := [(RO, .inr (7, oX7 FL aRO RO_lying)), (FL, .inr (0, oX0 PL aFL FL_parting)), ((aFL 2), .inl (cI, 64, .inl FL_far)), ((aRO 4), .inl (cI, 2048, .inl g2_aRO4))]) [0, 1, 3, 4] rfl
            refine vp_callSi (va_runV (As := [.int v2_3, .int r48, .int x0]) (rest := [.int y34, .ref (aRO 4)]) ⟨hx, hb, hml, hown, hts⟩ (c_X7_tourBy l D cI cB cL cZ cG RO v2_3 r48 x0 FL aRO RO_lying PL aFL FL_parting FL_far g2_aRO4 bx13f_v2_3 hr48 (zB_w bn36t_x0 (by decide) (by decide)) b_RO_lying sFL_far_0_k2) (cwV 3 hts gX7_measureTours_X7_tourBy rfl rfl rfl (by decide +kernel) ⟨Nat.le_of_ble_eq_true rfl, Nat.le_of_ble_eq_true rfl⟩) ⟨xr_blind, va_recv hK hP (ci := 7) (q0 := 0) rfl rfl, fun U hU hW => xr_mk hU hW hPc hK⟩ rfl rfl hl.1 rfl (lv_room (Nat.le_of_ble_eq_true rfl)) dX7_measureTours_52 ⟨Nat.le_of_ble_eq_true rfl, Nat.le_of_ble_eq_true rfl⟩).run (fun r52 hr52 => ?_)
            clear hPc
            clear hr52
            exact j55 H locs ls r52 sFL_far_0_k2 hP hD hS (lv_sub hl [0, 1, 2, 3] rfl)
          · have be36f_x0 : zB x0 0 0 := zB_eq c36 b_x0 (show zB 0 0 0 from ⟨by decide, by decide⟩) (by decide) (by decide)
            refine lv_iconst (v := 0) hx hb dX7_measureTours_39 (by decide) ?_
            refine lv_goto (tgt := 55) hx hb dX7_measureTours_40 (by decide) ?_
            exact j55 H locs ls 0 sFL_far_0_k2 hP hD hS (lv_sub hl [0, 1, 2, 3] rfl)
  refine lv_istore_n (lv' := [(3, .int 0), (0, .ref RO), (1, .int x0), (2, .int x1)]) hx hb dX7_measureTours_1 rfl hl (by decide) rfl (fun ls hl => ?_)
  exact j2 9 H locs ls 0 RO_rest (zB_w (show zB 0 0 0 from ⟨by decide, by decide⟩) (by decide) (by decide)) s_FL_far_0 (zM_ui (show zB 0 0 0 from ⟨by decide, by decide⟩) (by decide)) hP hD hS (lv_sub hl [0, 1, 2, 3] rfl)
set_option maxHeartbeats 4000000 in
set_option maxRecDepth 100000 in
theorem c_X7_layTour (l : Launch) (D : va_G) (cI : ClassId) (cB : ClassId) (cL : ClassId) (cZ : ClassId) (cG : ClassId) (RO : Nat) (x0 : Int32) (x1 : Int32) (FL : Nat) (aRO : Nat → Nat) (RO_lying : Int32) (PL : Nat) (aFL : Nat → Nat) (FL_parting : Int32) (PL_rooms : Int32) (aPL : Nat → Nat) (PL_doors : Int32) (PL_things : Int32) (FO : Nat) (PL_draw : Int32) (PL_drawTold : Int32) (FL_next : Nat → Int32) (FL_far : Nat → Int32) (RO_rest : Nat → Int32) (RO_lie : Nat → Int32) (sz : Nat) (b_x0 : zB x0 0 7) (b_x1 : zB x1 0 255) (b_RO_lying : zB RO_lying 0 8) (b_PL_rooms : zB PL_rooms 0 8) (b_PL_doors : zB PL_doors 0 12) (b_PL_things : zB PL_things 0 6) (s_FL_far_0 : zA FL_far 0 64 (-1) 7) : Met l yX7_layTour wsX7_layTour ({ frames := 4, cells := 0, slots := 0, locals := 93 }) (xp D [(cI, .int), (cB, .byte), (cL, .long), (cZ, .boolean), (cG, .array .int)] [(RO, .inr (7, oX7 FL aRO RO_lying)), (FL, .inr (0, oX0 PL aFL FL_parting)), (PL, .inr (5, oX5 FO aPL PL_rooms PL_doors PL_things PL_draw PL_drawTold)), ((aFL 1), .inl (cI, 8, .inl FL_next)), ((aFL 2), .inl (cI, 64, .inl FL_far)), ((aRO 4), .inl (cI, 2048, .inl RO_rest)), ((aRO 1), .inl (cI, 8, .inl RO_lie))] sz [] [.ref RO, .int x0, .int x1]) (va_Qi (fun (r : Int32) (_ : Unit) => True) (fun (_ : Unit) (t : State) => ∃ (nRO_lying : Int32), ∃ (nROrest : Nat → Int32), ∃ (nROlie : Nat → Int32), zB nRO_lying 0 8 ∧ xB D (va_A [(RO, .inr (7, oX7 FL aRO RO_lying)), (FL, .inr (0, oX0 PL aFL FL_parting)), (PL, .inr (5, oX5 FO aPL PL_rooms PL_doors PL_things PL_draw PL_drawTold)), ((aFL 1), .inl (cI, 8, .inl FL_next)), ((aFL 2), .inl (cI, 64, .inl FL_far)), ((aRO 4), .inl (cI, 2048, .inl RO_rest)), ((aRO 1), .inl (cI, 8, .inl RO_lie))] sz) [(RO, .inr (7, oX7 FL aRO nRO_lying)), (FL, .inr (0, oX0 PL aFL FL_parting)), (PL, .inr (5, oX5 FO aPL PL_rooms PL_doors PL_things PL_draw PL_drawTold)), ((aFL 1), .inl (cI, 8, .inl FL_next)), ((aFL 2), .inl (cI, 64, .inl FL_far)), ((aRO 4), .inl (cI, 2048, .inl nROrest)), ((aRO 1), .inl (cI, 8, .inl nROlie))] t) (va_A [(RO, .inr (7, oX7 FL aRO RO_lying)), (FL, .inr (0, oX0 PL aFL FL_parting)), (PL, .inr (5, oX5 FO aPL PL_rooms PL_doors PL_things PL_draw PL_drawTold)), ((aFL 1), .inl (cI, 8, .inl FL_next)), ((aFL 2), .inl (cI, 64, .inl FL_far)), ((aRO 4), .inl (cI, 2048, .inl RO_rest)), ((aRO 1), .inl (cI, 8, .inl RO_lie))] sz)) 0 0 (va_A [(RO, .inr (7, oX7 FL aRO RO_lying)), (FL, .inr (0, oX0 PL aFL FL_parting)), (PL, .inr (5, oX5 FO aPL PL_rooms PL_doors PL_things PL_draw PL_drawTold)), ((aFL 1), .inl (cI, 8, .inl FL_next)), ((aFL 2), .inl (cI, 64, .inl FL_far)), ((aRO 4), .inl (cI, 2048, .inl RO_rest)), ((aRO 1), .inl (cI, 8, .inl RO_lie))] sz) := by
  refine Met.ofW (cc := cX7_layTour) (maxL := 6) (ret := (some .int)) (by decide) rfl ?_
  intro p e s m args below meth c s₁ B hml hv
  obtain ⟨rfl, hsz, hP, hK, hD0, hNw⟩ := hv
  have hx := B.exec
  have hb := B.bytes
  have hr := B.returns
  have hts := atoms_spec (ws := wsX7_layTour) B.pre
  have hown : s.vm.findClass RX7 = some m.cls := findClass_of_methodNamed B.named
  have hlocks := B.notSynchronized
  clear B
  subst hsz
  have hD := hD0.self (sz := s.heap.size)
  clear hD0 hNw
  generalize hAe : va_A [(RO, .inr (7, oX7 FL aRO RO_lying)), (FL, .inr (0, oX0 PL aFL FL_parting)), (PL, .inr (5, oX5 FO aPL PL_rooms PL_doors PL_things PL_draw PL_drawTold)), ((aFL 1), .inl (cI, 8, .inl FL_next)), ((aFL 2), .inl (cI, 64, .inl FL_far)), ((aRO 4), .inl (cI, 2048, .inl RO_rest)), ((aRO 1), .inl (cI, 8, .inl RO_lie))] s.heap.size = A at hD ⊢
  have hA : ∀ q : Nat, s.heap.size ≤ q → A q := fun q h => by rw [← hAe]; exact Or.inr h
  have hS : va_S A s.heap s.heap [] := va_S.rf
  clear hAe
  obtain ⟨H, hH⟩ : ∃ H : Heap, H = s.heap := ⟨_, rfl⟩
  obtain ⟨locs, hlocs⟩ : ∃ L : List Loc, L = [] := ⟨_, rfl⟩
  replace hP : va_P D classes [(RO, .inr (7, oX7 FL aRO RO_lying)), (FL, .inr (0, oX0 PL aFL FL_parting)), (PL, .inr (5, oX5 FO aPL PL_rooms PL_doors PL_things PL_draw PL_drawTold)), ((aFL 1), .inl (cI, 8, .inl FL_next)), ((aFL 2), .inl (cI, 64, .inl FL_far)), ((aRO 4), .inl (cI, 2048, .inl RO_rest)), ((aRO 1), .inl (cI, 8, .inl RO_lie))] H := by rw [hH]; exact hP
  replace hS : va_S A s.heap H locs := by rw [hH, hlocs]; exact hS
  rw [← hH, ← hlocs]
  clear hlocs hH
  have hl := lv_entry ([.ref RO, .int x0, .int x1]) (n := 6) (Nat.le_of_ble_eq_true rfl)
  rw [lg_entry_eq]
  generalize (lg_sl ([.ref RO, .int x0, .int x1]) ++ List.replicate (6 - (lg_sl ([.ref RO, .int x0, .int x1])).length) Slot.unset).toArray = ls at hl ⊢
  replace hl : lv_has ls 6 [(0, .ref RO), (1, .int x0), (2, .int x1)] := hl
  refine zz_abs (R := ({ frames := 4, cells := 0, slots := 0, locals := 93 } : Room)) (fun Q up => ?_)
  refine lv_iload_n hx hb dX7_layTour_0 rfl (lv_at hl 2 rfl) ?_
  refine lv_aload_n hx hb dX7_layTour_1 rfl (lv_at hl 0 rfl) ?_
  refine va_get (D := D) (ci := 7) (v := .ref FL) (C := RX7) (T := TX7) (N := 5) hx hb hts iw_X7_layTour_X7 hown hK hP 0 rfl rfl 0 (by decide) (hts (.fieldLink RX7 21 "SoldHouse$Routes" "floor" "LSoldHouse$Floor;") (List.mem_of_getElem? (i := 1) rfl)) (fun _ h9 => h9) rfl dX7_layTour_2 ?_
  refine lv_iload_n hx hb dX7_layTour_5 rfl (lv_at hl 1 rfl) ?_
  refine lv_aload_n hx hb dX7_layTour_6 rfl (lv_at hl 0 rfl) ?_
  refine va_get (D := D) (ci := 7) (v := .ref FL) (C := RX7) (T := TX7) (N := 5) hx hb hts iw_X7_layTour_X7 hown hK hP 0 rfl rfl 0 (by decide) (hts (.fieldLink RX7 21 "SoldHouse$Routes" "floor" "LSoldHouse$Floor;") (List.mem_of_getElem? (i := 1) rfl)) (fun _ h9 => h9) rfl dX7_layTour_7 ?_
  have hPc := hP.sub (ws' := [(FL, .inr (0, oX0 PL aFL FL_parting)), (PL, .inr (5, oX5 FO aPL PL_rooms PL_doors PL_things PL_draw PL_drawTold))]) [1, 2] rfl
  refine vp_callSi (va_runV (As := []) (rest := [.int x0, .ref FL, .int x1]) ⟨hx, hb, hml, hown, hts⟩ (c_X0_allRooms l D cI cB cL cZ cG FL PL aFL FL_parting PL_rooms aPL PL_doors PL_things FO PL_draw PL_drawTold b_PL_rooms b_PL_doors b_PL_things) (cwV 0 hts gX7_layTour_X0_allRooms rfl rfl rfl (by decide +kernel) ⟨Nat.le_of_ble_eq_true rfl, Nat.le_of_ble_eq_true rfl⟩) ⟨xr_blind, va_recv hK hP (ci := 0) (q0 := 1) rfl rfl, fun U hU hW => xr_mk hU hW hPc hK⟩ rfl rfl hl.1 rfl (lv_room (Nat.le_of_ble_eq_true rfl)) dX7_layTour_10 ⟨Nat.le_of_ble_eq_true rfl, Nat.le_of_ble_eq_true rfl⟩).run (fun r10 hr10 => ?_)
  clear hPc
  have hPc := hP.sub (ws' := [(FL, .inr (0, oX0 PL aFL FL_parting)), (PL, .inr (5, oX5 FO aPL PL_rooms PL_doors PL_things PL_draw PL_drawTold)), ((aFL 1), .inl (cI, 8, .inl FL_next))]) [1, 2, 3] rfl
  refine vp_callSi (va_runV (As := [.int x0, .int r10]) (rest := [.int x1]) ⟨hx, hb, hml, hown, hts⟩ (c_X0_reach l D cI cB cL cZ cG FL x0 r10 PL aFL FL_parting PL_rooms aPL PL_doors PL_things FO PL_draw PL_drawTold FL_next b_PL_rooms b_PL_doors b_PL_things) (cwV 2 hts gX7_layTour_X0_reach rfl rfl rfl (by decide +kernel) ⟨Nat.le_of_ble_eq_true rfl, Nat.le_of_ble_eq_true rfl⟩) ⟨xr_blind, va_recv hK hP (ci := 0) (q0 := 1) rfl rfl, fun U hU hW => xr_mk hU hW hPc hK⟩ rfl rfl hl.1 rfl (lv_room (Nat.le_of_ble_eq_true rfl)) dX7_layTour_13 ⟨Nat.le_of_ble_eq_true rfl, Nat.le_of_ble_eq_true rfl⟩).run (fun r13 hr13 => ?_)
  clear hPc
  clear hr13
  refine lv_iconst (v := (-1)) hx hb dX7_layTour_16 (by decide) ?_
  refine lv_ixor hx hb dX7_layTour_17 ?_
  refine lv_topi (fun y17 _ => ?_)
  refine lv_iand hx hb dX7_layTour_18 ?_
  refine zi_top (a := 0) (b := 255) (zB_andl b_x1 (by decide)) (fun y18 by18 => ?_)
  refine lv_if_eq (tgt := 24) hx hb dX7_layTour_19 (by decide) (fun c19 => ?_) (fun c19 => ?_)
  · have be19t_y18 : zB y18 0 0 := zB_eq c19 by18 (show zB 0 0 0 from ⟨by decide, by decide⟩) (by decide) (by decide)
    refine lv_iconst (v := 0) hx hb dX7_layTour_24 (by decide) ?_
    have j26 : ∀ (n26 : Nat) (H : Heap) (locs : List Loc) (ls : Array Slot) (v26_3 : Int32) (g26_aRO4 : Nat → Int32), zB v26_3 0 256 → zA FL_far 0 64 (-1) 7 → (256 + 1 - v26_3.toInt) ≤ (n26 : Int) → va_P D classes [(RO, .inr (7, oX7 FL aRO RO_lying)), (FL, .inr (0, oX0 PL aFL FL_parting)), (PL, .inr (5, oX5 FO aPL PL_rooms PL_doors PL_things PL_draw PL_drawTold)), ((aFL 1), .inl (cI, 8, .inl FL_next)), ((aFL 2), .inl (cI, 64, .inl FL_far)), ((aRO 4), .inl (cI, 2048, .inl g26_aRO4)), ((aRO 1), .inl (cI, 8, .inl RO_lie))] H → va_D A [(RO, .inr (7, oX7 FL aRO RO_lying)), (FL, .inr (0, oX0 PL aFL FL_parting)), (PL, .inr (5, oX5 FO aPL PL_rooms PL_doors PL_things PL_draw PL_drawTold)), ((aFL 1), .inl (cI, 8, .inl FL_next)), ((aFL 2), .inl (cI, 64, .inl FL_far)), ((aRO 4), .inl (cI, 2048, .inl g26_aRO4)), ((aRO 1), .inl (cI, 8, .inl RO_lie))] → va_S A s.heap H locs → lv_has ls 6 [(3, .int v26_3), (0, .ref RO), (1, .int x0), (2, .int x1)] → W p l e ({ frames := 4, cells := 0, slots := 0, locals := 93 } : Room) s m ([.ref RO, .int x0, .int x1] : List Value).toArray below meth c H locs 0 0 Q (F0 m 26 ls []) := by
      intro n26
      induction n26 with
      | zero => intro H locs ls v26_3 g26_aRO4 bv26_3_k26 sFL_far_0_k26 hm26 hP hD hS hl; exact zM_u0 bv26_3_k26 hm26
      | succ n26 ih26 =>
        intro H locs ls v26_3 g26_aRO4 bv26_3_k26 sFL_far_0_k26 hm26 hP hD hS hl
        refine lv_iload_n hx hb dX7_layTour_26 rfl (lv_at hl 0 rfl) ?_
        refine lv_iload_n hx hb dX7_layTour_27 rfl (lv_at hl 3 rfl) ?_
        refine lv_icmp_gt (tgt := 55) hx hb dX7_layTour_28 (by decide) (fun c28 => ?_) (fun c28 => ?_)
        · have by28t_v26_3 : zB v26_3 1 256 := zB_ltv (zl c28) b_x1 bv26_3_k26 (by decide)
          refine lv_iload_n hx hb dX7_layTour_55 rfl (lv_at hl 2 rfl) ?_
          refine lv_istore_n (lv' := [(3, .int x0), (0, .ref RO), (1, .int x0), (2, .int x1)]) hx hb dX7_layTour_56 rfl hl (by decide) rfl (fun ls hl => ?_)
          refine lv_iload_n hx hb dX7_layTour_57 rfl (lv_at hl 3 rfl) ?_
          refine lv_istore (lv' := [(4, .int x1), (3, .int x0), (0, .ref RO), (1, .int x0), (2, .int x1)]) hx hb dX7_layTour_58 hl (by decide) rfl (fun ls hl => ?_)
          refine lv_iconst (v := 0) hx hb dX7_layTour_60 (by decide) ?_
          have j63 : ∀ (n63 : Nat) (H : Heap) (locs : List Loc) (ls : Array Slot) (v63_5 : Int32) (v63_4 : Int32) (v63_3 : Int32) (w63_RO_2 : Int32) (g63_aRO1 : Nat → Int32), zB v63_5 0 8 → zB v63_4 0 255 → zB v63_3 0 7 → zB w63_RO_2 0 8 → zA FL_far 0 64 (-1) 7 → (8 + 1 - v63_5.toInt) ≤ (n63 : Int) → va_P D classes [(RO, .inr (7, oX7 FL aRO w63_RO_2)), (FL, .inr (0, oX0 PL aFL FL_parting)), (PL, .inr (5, oX5 FO aPL PL_rooms PL_doors PL_things PL_draw PL_drawTold)), ((aFL 1), .inl (cI, 8, .inl FL_next)), ((aFL 2), .inl (cI, 64, .inl FL_far)), ((aRO 4), .inl (cI, 2048, .inl g26_aRO4)), ((aRO 1), .inl (cI, 8, .inl g63_aRO1))] H → va_D A [(RO, .inr (7, oX7 FL aRO w63_RO_2)), (FL, .inr (0, oX0 PL aFL FL_parting)), (PL, .inr (5, oX5 FO aPL PL_rooms PL_doors PL_things PL_draw PL_drawTold)), ((aFL 1), .inl (cI, 8, .inl FL_next)), ((aFL 2), .inl (cI, 64, .inl FL_far)), ((aRO 4), .inl (cI, 2048, .inl g26_aRO4)), ((aRO 1), .inl (cI, 8, .inl g63_aRO1))] → va_S A s.heap H locs → lv_has ls 6 [(5, .int v63_5), (4, .int v63_4), (3, .int v63_3), (0, .ref RO), (1, .int x0), (2, .int x1)] → W p l e ({ frames := 4, cells := 0, slots := 0, locals := 93 } : Room) s m ([.ref RO, .int x0, .int x1] : List Value).toArray below meth c H locs 0 0 Q (F0 m 63 ls []) := by
            intro n63
            induction n63 with
            | zero => intro H locs ls v63_5 v63_4 v63_3 w63_RO_2 g63_aRO1 bv63_5_k63 bv63_4_k63 bv63_3_k63 bw63_RO_2_k63 sFL_far_0_k63 hm63 hP hD hS hl; exact zM_u0 bv63_5_k63 hm63
            | succ n63 ih63 =>
              intro H locs ls v63_5 v63_4 v63_3 w63_RO_2 g63_aRO1 bv63_5_k63 bv63_4_k63 bv63_3_k63 bw63_RO_2_k63 sFL_far_0_k63 hm63 hP hD hS hl
              refine lv_iload hx hb dX7_layTour_63 (lv_at hl 0 rfl) ?_
              refine lv_bipush (v := 8) hx hb dX7_layTour_65 (by decide) ?_
              have j104 : ∀ (H : Heap) (locs : List Loc) (ls : Array Slot), zA FL_far 0 64 (-1) 7 → va_P D classes [(RO, .inr (7, oX7 FL aRO w63_RO_2)), (FL, .inr (0, oX0 PL aFL FL_parting)), (PL, .inr (5, oX5 FO aPL PL_rooms PL_doors PL_things PL_draw PL_drawTold)), ((aFL 1), .inl (cI, 8, .inl FL_next)), ((aFL 2), .inl (cI, 64, .inl FL_far)), ((aRO 4), .inl (cI, 2048, .inl g26_aRO4)), ((aRO 1), .inl (cI, 8, .inl g63_aRO1))] H → va_D A [(RO, .inr (7, oX7 FL aRO w63_RO_2)), (FL, .inr (0, oX0 PL aFL FL_parting)), (PL, .inr (5, oX5 FO aPL PL_rooms PL_doors PL_things PL_draw PL_drawTold)), ((aFL 1), .inl (cI, 8, .inl FL_next)), ((aFL 2), .inl (cI, 64, .inl FL_far)), ((aRO 4), .inl (cI, 2048, .inl g26_aRO4)), ((aRO 1), .inl (cI, 8, .inl g63_aRO1))] → va_S A s.heap H locs → lv_has ls 6 [(5, .int v63_5), (4, .int v63_4), (3, .int v63_3), (0, .ref RO), (1, .int x0), (2, .int x1)] → W p l e ({ frames := 4, cells := 0, slots := 0, locals := 93 } : Room) s m ([.ref RO, .int x0, .int x1] : List Value).toArray below meth c H locs 0 0 Q (F0 m 104 ls []) := by
                intro H locs ls sFL_far_0_k104 hP hD hS hl
                refine lv_aload_n hx hb dX7_layTour_104 rfl (lv_at hl 3 rfl) ?_
                refine va_get (D := D) (ci := 7) (v := .ref (aRO 4)) (C := RX7) (T := TX7) (N := 5) hx hb hts iw_X7_layTour_X7 hown hK hP 0 rfl rfl 4 (by decide) (hts (.fieldLink RX7 18 "SoldHouse$Routes" "rest" "[I") (List.mem_of_getElem? (i := 2) rfl)) (fun _ h9 => h9) rfl dX7_layTour_105 ?_
                refine lv_iload_n hx hb dX7_layTour_108 rfl (lv_at hl 5 rfl) ?_
                refine lv_bipush (v := 8) hx hb dX7_layTour_109 (by decide) ?_
                refine lv_imul hx hb dX7_layTour_111 ?_
                refine zi_top (a := 0) (b := 2040) (zB_mul b_x1 (show zB 8 8 8 from ⟨by decide, by decide⟩) (by decide) (by decide) (by decide) (by decide) (by decide)) (fun y111 by111 => ?_)
                refine lv_iload_n hx hb dX7_layTour_112 rfl (lv_at hl 4 rfl) ?_
                refine lv_iadd hx hb dX7_layTour_113 ?_
                refine zi_top (a := 0) (b := 2047) (zB_add by111 b_x0 (by decide) (by decide) (by decide) (by decide)) (fun y113 by113 => ?_)
                refine va_iald hx hb hK hP 5 0 rfl rfl (zB_in by113 (by decide) (by decide)) dX7_layTour_114 ?_
                refine lv_topi (fun y114 _ => ?_)
                exact up _ _ _ (W.iret (v := y114) hx hb hr (fun t ht hW => ⟨⟨y114, (), rfl, trivial, ⟨w63_RO_2, g26_aRO4, g63_aRO1, bw63_RO_2_k63, by rw [ht]; exact hP, hD⟩⟩, hS.F ht⟩) hS.2.2 dX7_layTour_115)
              refine lv_icmp_ge (tgt := 104) hx hb dX7_layTour_67 (by decide) (fun c67 => ?_) (fun c67 => ?_)
              · have by67t_v63_5 : zB v63_5 8 8 := zB_lev (ze c67) (show zB 8 8 8 from ⟨by decide, by decide⟩) bv63_5_k63 (by decide)
                exact j104 H locs ls sFL_far_0_k63 hP hD hS (lv_sub hl [0, 1, 2, 3, 4, 5] rfl)
              · have bx67f_v63_5 : zB v63_5 0 7 := zB_ltu (zf c67) bv63_5_k63 (show zB 8 8 8 from ⟨by decide, by decide⟩) (by decide)
                refine lv_iload hx hb dX7_layTour_70 (lv_at hl 1 rfl) ?_
                refine lv_if_eq (tgt := 104) hx hb dX7_layTour_72 (by decide) (fun c72 => ?_) (fun c72 => ?_)
                · have be72t_v63_4 : zB v63_4 0 0 := zB_eq c72 bv63_4_k63 (show zB 0 0 0 from ⟨by decide, by decide⟩) (by decide) (by decide)
                  exact j104 H locs ls sFL_far_0_k63 hP hD hS (lv_sub hl [0, 1, 2, 3, 4, 5] rfl)
                · have bn72f_v63_4 : zB v63_4 1 255 := zB_neL c72 bv63_4_k63 (show zB 0 0 0 from ⟨by decide, by decide⟩) (by decide)
                  refine lv_aload_n hx hb dX7_layTour_75 rfl (lv_at hl 3 rfl) ?_
                  refine lv_iload_n hx hb dX7_layTour_76 rfl (lv_at hl 2 rfl) ?_
                  refine lv_iload hx hb dX7_layTour_77 (lv_at hl 1 rfl) ?_
                  have hPc := hP.sub (ws' := [(RO, .inr (7, oX7 FL aRO w63_RO_2)), (FL, .inr (0, oX0 PL aFL FL_parting)), (PL, .inr (5, oX5 FO aPL PL_rooms PL_doors PL_things PL_draw PL_drawTold)), ((aFL 2), .inl (cI, 64, .inl FL_far)), ((aRO 4), .inl (cI, 2048, .inl g26_aRO4))]) [0, 1, 2, 4, 5] rfl
                  refine vp_callSi (va_runV (As := [.int v63_3, .int v63_4]) (rest := []) ⟨hx, hb, hml, hown, hts⟩ (c_X7_nextOnTour l D cI cB cL cZ cG RO v63_3 v63_4 FL aRO w63_RO_2 PL aFL FL_parting PL_rooms aPL PL_doors PL_things FO PL_draw PL_drawTold FL_far g26_aRO4 bv63_3_k63 (zB_w bn72f_v63_4 (by decide) (by decide)) bw63_RO_2_k63 b_PL_rooms b_PL_doors b_PL_things sFL_far_0_k63) (cwV 2 hts gX7_layTour_X7_nextOnTour rfl rfl rfl (by decide +kernel) ⟨Nat.le_of_ble_eq_true rfl, Nat.le_of_ble_eq_true rfl⟩) ⟨xr_blind, va_recv hK hP (ci := 7) (q0 := 0) rfl rfl, fun U hU hW => xr_mk hU hW hPc hK⟩ rfl rfl hl.1 rfl (lv_room (Nat.le_of_ble_eq_true rfl)) dX7_layTour_79 ⟨Nat.le_of_ble_eq_true rfl, Nat.le_of_ble_eq_true rfl⟩).run (fun r79 hr79 => ?_)
                  clear hPc
                  refine lv_istore_n (lv' := [(3, .int r79), (5, .int v63_5), (4, .int v63_4), (0, .ref RO), (1, .int x0), (2, .int x1)]) hx hb dX7_layTour_82 rfl hl (by decide) rfl (fun ls hl => ?_)
                  refine lv_iload hx hb dX7_layTour_83 (lv_at hl 2 rfl) ?_
                  refine lv_iconst (v := 1) hx hb dX7_layTour_85 (by decide) ?_
                  refine lv_iload_n hx hb dX7_layTour_86 rfl (lv_at hl 0 rfl) ?_
                  refine lv_ishl hx hb dX7_layTour_87 ?_
                  refine zi_top (a := 1) (b := 128) (zB_shl1 hr79 (by decide) (by decide) (by decide) (by decide)) (fun y87 by87 => ?_)
                  refine lv_iconst (v := (-1)) hx hb dX7_layTour_88 (by decide) ?_
                  refine lv_ixor hx hb dX7_layTour_89 ?_
                  refine zi_top (a := (-129)) (b := (-2)) (zB_not by87 (by decide) (by decide)) (fun y89 by89 => ?_)
                  refine lv_iand hx hb dX7_layTour_90 ?_
                  refine zi_top (a := 0) (b := 255) (zB_andl bn72f_v63_4 (by decide)) (fun y90 by90 => ?_)
                  refine lv_istore (lv' := [(4, .int y90), (3, .int r79), (5, .int v63_5), (0, .ref RO), (1, .int x0), (2, .int x1)]) hx hb dX7_layTour_91 hl (by decide) rfl (fun ls hl => ?_)
                  refine lv_aload_n hx hb dX7_layTour_93 rfl (lv_at hl 3 rfl) ?_
                  refine lv_iload_n hx hb dX7_layTour_94 rfl (lv_at hl 1 rfl) ?_
                  have hPc := hP.sub (ws' := [(RO, .inr (7, oX7 FL aRO w63_RO_2)), ((aRO 1), .inl (cI, 8, .inl g63_aRO1))]) [0, 6] rfl
                  have hDc := hD.sub (ws' := [(RO, .inr (7, oX7 FL aRO w63_RO_2)), ((aRO 1), .inl (cI, 8, .inl g63_aRO1))]) [0, 6] (by decide) rfl
                  have hFc := va_free (wc := [(RO, .inr (7, oX7 FL aRO w63_RO_2)), ((aRO 1), .inl (cI, 8, .inl g63_aRO1))]) hD hS hA [0, 6] rfl
                  refine va_callv (va_runV (As := [.int r79]) (rest := []) ⟨hx, hb, hml, hown, hts⟩ (c_X7_lay l D cI cB cL cZ cG RO r79 FL aRO w63_RO_2 g63_aRO1 H.size bw63_RO_2_k63) (cwV 1 hts gX7_layTour_X7_lay rfl rfl rfl (by decide +kernel) ⟨Nat.le_of_ble_eq_true rfl, Nat.le_of_ble_eq_true rfl⟩) ⟨xp_blind, va_recv hK hP (ci := 7) (q0 := 0) rfl rfl, fun U hU hW => xp_mk hU hW hPc hK hDc xNw_nil⟩ rfl rfl hl.1 rfl (lv_room (Nat.le_of_ble_eq_true rfl)) dX7_layTour_95 ⟨Nat.le_of_ble_eq_true rfl, Nat.le_of_ble_eq_true rfl⟩) hS (fun q _ h => hFc q h) hFc (fun u9 t9 H1 locs ht9 hvm9 hr95 hB9 hz9 hk9 hS => ?_)
                  obtain ⟨o95_nRO_lying, o95_nROlie, bo95_nRO_lying, hP1, hD1⟩ := hB9
                  rw [ht9] at hP1
                  obtain ⟨hP, hD⟩ := va_join (wr := [(FL, .inr (0, oX0 PL aFL FL_parting)), (PL, .inr (5, oX5 FO aPL PL_rooms PL_doors PL_things PL_draw PL_drawTold)), ((aFL 1), .inl (cI, 8, .inl FL_next)), ((aFL 2), .inl (cI, 64, .inl FL_far)), ((aRO 4), .inl (cI, 2048, .inl g26_aRO4))]) (w1 := [(RO, .inr (7, oX7 FL aRO o95_nRO_lying)), ((aRO 1), .inl (cI, 8, .inl o95_nROlie))]) hP hD [0, 6] [1, 2, 3, 4, 5] rfl rfl (by decide) (by decide) hk9 hFc hP1 hD1
                  clear hz9 hPc hDc hP1 hD1 hk9 hFc ht9 hvm9 u9 t9
                  generalize H1 = H at hP hS ⊢
                  replace hP : va_P D classes [(RO, .inr (7, oX7 FL aRO o95_nRO_lying)), (FL, .inr (0, oX0 PL aFL FL_parting)), (PL, .inr (5, oX5 FO aPL PL_rooms PL_doors PL_things PL_draw PL_drawTold)), ((aFL 1), .inl (cI, 8, .inl FL_next)), ((aFL 2), .inl (cI, 64, .inl FL_far)), ((aRO 4), .inl (cI, 2048, .inl g26_aRO4)), ((aRO 1), .inl (cI, 8, .inl o95_nROlie))] H := hP.sub [5, 0, 1, 2, 3, 4, 6] rfl
                  replace hD : va_D A [(RO, .inr (7, oX7 FL aRO o95_nRO_lying)), (FL, .inr (0, oX0 PL aFL FL_parting)), (PL, .inr (5, oX5 FO aPL PL_rooms PL_doors PL_things PL_draw PL_drawTold)), ((aFL 1), .inl (cI, 8, .inl FL_next)), ((aFL 2), .inl (cI, 64, .inl FL_far)), ((aRO 4), .inl (cI, 2048, .inl g26_aRO4)), ((aRO 1), .inl (cI, 8, .inl o95_nROlie))] := hD.sub [5, 0, 1, 2, 3, 4, 6] (by decide) rfl
                  obtain ⟨y98, by98, ry98, ey98⟩ := zi_inc (x := v63_5) (k := 1) (a := 1) (b := 8) bx67f_v63_5 (by decide) (by decide) (by decide) (by decide) (by decide)
                  refine lv_iinc (v := y98) (lv' := [(5, .int y98), (4, .int y90), (3, .int r79), (0, .ref RO), (1, .int x0), (2, .int x1)]) hx hb dX7_layTour_98 hl (k := 2) rfl ey98 (by decide) rfl (fun ls hl => ?_)
                  refine lv_goto (tgt := 63) hx hb dX7_layTour_101 (by decide) ?_
                  exact ih63 H locs ls y98 y90 r79 o95_nRO_lying o95_nROlie (zB_w by98 (by decide) (by decide)) by90 hr79 (zB_w bo95_nRO_lying (by decide) (by decide)) sFL_far_0_k63 (zM_us (k := 1) hm63 ry98 (by decide)) hP hD hS (lv_sub hl [0, 1, 2, 3, 4, 5] rfl)
          refine lv_istore (lv' := [(5, .int 0), (4, .int x1), (3, .int x0), (0, .ref RO), (1, .int x0), (2, .int x1)]) hx hb dX7_layTour_61 hl (by decide) rfl (fun ls hl => ?_)
          exact j63 9 H locs ls 0 x1 x0 RO_lying RO_lie (zB_w (show zB 0 0 0 from ⟨by decide, by decide⟩) (by decide) (by decide)) b_x1 b_x0 b_RO_lying sFL_far_0_k26 (zM_ui (show zB 0 0 0 from ⟨by decide, by decide⟩) (by decide)) hP hD hS (lv_sub hl [0, 1, 2, 3, 4, 5] rfl)
        · have bx28f_v26_3 : zB v26_3 0 255 := zB_leu (zg c28) bv26_3_k26 b_x1 (by decide)
          refine lv_iload_n hx hb dX7_layTour_31 rfl (lv_at hl 0 rfl) ?_
          refine lv_iload_n hx hb dX7_layTour_32 rfl (lv_at hl 3 rfl) ?_
          refine lv_iconst (v := (-1)) hx hb dX7_layTour_33 (by decide) ?_
          refine lv_ixor hx hb dX7_layTour_34 ?_
          refine zi_top (a := (-256)) (b := (-1)) (zB_not b_x1 (by decide) (by decide)) (fun y34 by34 => ?_)
          refine lv_iand hx hb dX7_layTour_35 ?_
          refine zi_top (a := 0) (b := 255) (zB_andl bx28f_v26_3 (by decide)) (fun y35 by35 => ?_)
          have j49 : ∀ (H : Heap) (locs : List Loc) (ls : Array Slot) (g49_aRO4 : Nat → Int32), zA FL_far 0 64 (-1) 7 → va_P D classes [(RO, .inr (7, oX7 FL aRO RO_lying)), (FL, .inr (0, oX0 PL aFL FL_parting)), (PL, .inr (5, oX5 FO aPL PL_rooms PL_doors PL_things PL_draw PL_drawTold)), ((aFL 1), .inl (cI, 8, .inl FL_next)), ((aFL 2), .inl (cI, 64, .inl FL_far)), ((aRO 4), .inl (cI, 2048, .inl g49_aRO4)), ((aRO 1), .inl (cI, 8, .inl RO_lie))] H → va_D A [(RO, .inr (7, oX7 FL aRO RO_lying)), (FL, .inr (0, oX0 PL aFL FL_parting)), (PL, .inr (5, oX5 FO aPL PL_rooms PL_doors PL_things PL_draw PL_drawTold)), ((aFL 1), .inl (cI, 8, .inl FL_next)), ((aFL 2), .inl (cI, 64, .inl FL_far)), ((aRO 4), .inl (cI, 2048, .inl g49_aRO4)), ((aRO 1), .inl (cI, 8, .inl RO_lie))] → va_S A s.heap H locs → lv_has ls 6 [(3, .int v26_3), (0, .ref RO), (1, .int x0), (2, .int x1)] → W p l e ({ frames := 4, cells := 0, slots := 0, locals := 93 } : Room) s m ([.ref RO, .int x0, .int x1] : List Value).toArray below meth c H locs 0 0 Q (F0 m 49 ls []) := by
            intro H locs ls g49_aRO4 sFL_far_0_k49 hP hD hS hl
            obtain ⟨y49, by49, ry49, ey49⟩ := zi_inc (x := v26_3) (k := 1) (a := 1) (b := 256) bx28f_v26_3 (by decide) (by decide) (by decide) (by decide) (by decide)
            refine lv_iinc (v := y49) (lv' := [(3, .int y49), (0, .ref RO), (1, .int x0), (2, .int x1)]) hx hb dX7_layTour_49 hl (k := 0) rfl ey49 (by decide) rfl (fun ls hl => ?_)
            refine lv_goto (tgt := 26) hx hb dX7_layTour_52 (by decide) ?_
            exact ih26 H locs ls y49 g49_aRO4 (zB_w by49 (by decide) (by decide)) sFL_far_0_k49 (zM_us (k := 1) hm26 ry49 (by decide)) hP hD hS (lv_sub hl [0, 1, 2, 3] rfl)
          refine lv_if_ne (tgt := 49) hx hb dX7_layTour_36 (by decide) (fun c36 => ?_) (fun c36 => ?_)
          · have bn36t_y35 : zB y35 1 255 := zB_neL c36 by35 (show zB 0 0 0 from ⟨by decide, by decide⟩) (by decide)
            exact j49 H locs ls g26_aRO4 sFL_far_0_k26 hP hD hS (lv_sub hl [0, 1, 2, 3] rfl)
          · have be36f_y35 : zB y35 0 0 := zB_eq c36 by35 (show zB 0 0 0 from ⟨by decide, by decide⟩) (by decide) (by decide)
            refine lv_aload_n hx hb dX7_layTour_39 rfl (lv_at hl 1 rfl) ?_
            refine lv_iload_n hx hb dX7_layTour_40 rfl (lv_at hl 0 rfl) ?_
            refine lv_iload_n hx hb dX7_layTour_41 rfl (lv_at hl 3 rfl) ?_
            refine lv_iconst (v := 1) hx hb dX7_layTour_42 (by decide) ?_
            refine lv_iload_n hx hb dX7_layTour_43 rfl (lv_at hl 2 rfl) ?_
            refine lv_ishl hx hb dX7_layTour_44 ?_
            refine zi_top (a := 1) (b := 128) (zB_shl1 b_x0 (by decide) (by decide) (by decide) (by decide)) (fun y44 by44 => ?_)
            refine lv_ior hx hb dX7_layTour_45 ?_
            refine zi_top (a := 1) (b := 255) (zB_or 8 b_x1 by44 (by decide) (by decide) (by decide) (by decide) (by decide) (by decide) (by decide)) (fun y45 by45 => ?_)
            have hPc := hP.sub (ws' := [(RO, .inr (7, oX7 FL aRO RO_lying)), (FL, .inr (0, oX0 PL aFL FL_parting)), (PL, .inr (5, oX5 FO aPL PL_rooms PL_doors PL_things PL_draw PL_drawTold)), ((aFL 2), .inl (cI, 64, .inl FL_far)), ((aRO 4), .inl (cI, 2048, .inl g26_aRO4))]) [0, 1, 2, 4, 5] rfl
            have hDc := hD.sub (ws' := [(RO, .inr (7, oX7 FL aRO RO_lying)), (FL, .inr (0, oX0 PL aFL FL_parting)), (PL, .inr (5, oX5 FO aPL PL_rooms PL_doors PL_things PL_draw PL_drawTold)), ((aFL 2), .inl (cI, 64, .inl FL_far)), ((aRO 4), .inl (cI, 2048, .inl g26_aRO4))]) [0, 1, 2, 4, 5] (by decide) rfl
            have hFc := va_free (wc := [(RO, .inr (7, oX7 FL aRO RO_lying)), (FL, .inr (0, oX0 PL aFL FL_parting)), (PL, .inr (5, oX5 FO aPL PL_rooms PL_doors PL_things PL_draw PL_drawTold)), ((aFL 2), .inl (cI, 64, .inl FL_far)), ((aRO 4), .inl (cI, 2048, .inl g26_aRO4))]) hD hS hA [0, 1, 2, 4, 5] rfl
            refine va_callv (va_runV (As := [.int v26_3, .int y45]) (rest := []) ⟨hx, hb, hml, hown, hts⟩ (c_X7_measureTours l D cI cB cL cZ cG RO v26_3 y45 FL aRO RO_lying PL aFL FL_parting PL_rooms aPL PL_doors PL_things FO PL_draw PL_drawTold FL_far g26_aRO4 H.size bx28f_v26_3 b_RO_lying b_PL_rooms b_PL_doors b_PL_things sFL_far_0_k26) (cwV 2 hts gX7_layTour_X7_measureTours rfl rfl rfl (by decide +kernel) ⟨Nat.le_of_ble_eq_true rfl, Nat.le_of_ble_eq_true rfl⟩) ⟨xp_blind, va_recv hK hP (ci := 7) (q0 := 0) rfl rfl, fun U hU hW => xp_mk hU hW hPc hK hDc xNw_nil⟩ rfl rfl hl.1 rfl (lv_room (Nat.le_of_ble_eq_true rfl)) dX7_layTour_46 ⟨Nat.le_of_ble_eq_true rfl, Nat.le_of_ble_eq_true rfl⟩) hS (fun q _ h => hFc q h) hFc (fun u9 t9 H1 locs ht9 hvm9 hr46 hB9 hz9 hk9 hS => ?_)
            obtain ⟨o46_nROrest, hP1, hD1⟩ := hB9
            rw [ht9] at hP1
            obtain ⟨hP, hD⟩ := va_join (wr := [((aFL 1), .inl (cI, 8, .inl FL_next)), ((aRO 1), .inl (cI, 8, .inl RO_lie))]) (w1 := [(RO, .inr (7, oX7 FL aRO RO_lying)), (FL, .inr (0, oX0 PL aFL FL_parting)), (PL, .inr (5, oX5 FO aPL PL_rooms PL_doors PL_things PL_draw PL_drawTold)), ((aFL 2), .inl (cI, 64, .inl FL_far)), ((aRO 4), .inl (cI, 2048, .inl o46_nROrest))]) hP hD [0, 1, 2, 4, 5] [3, 6] rfl rfl (by decide) (by decide) hk9 hFc hP1 hD1
            clear hz9 hPc hDc hP1 hD1 hk9 hFc ht9 hvm9 u9 t9
            generalize H1 = H at hP hS ⊢
            replace hP : va_P D classes [(RO, .inr (7, oX7 FL aRO RO_lying)), (FL, .inr (0, oX0 PL aFL FL_parting)), (PL, .inr (5, oX5 FO aPL PL_rooms PL_doors PL_things PL_draw PL_drawTold)), ((aFL 1), .inl (cI, 8, .inl FL_next)), ((aFL 2), .inl (cI, 64, .inl FL_far)), ((aRO 4), .inl (cI, 2048, .inl o46_nROrest)), ((aRO 1), .inl (cI, 8, .inl RO_lie))] H := hP.sub [2, 3, 4, 0, 5, 6, 1] rfl
            replace hD : va_D A [(RO, .inr (7, oX7 FL aRO RO_lying)), (FL, .inr (0, oX0 PL aFL FL_parting)), (PL, .inr (5, oX5 FO aPL PL_rooms PL_doors PL_things PL_draw PL_drawTold)), ((aFL 1), .inl (cI, 8, .inl FL_next)), ((aFL 2), .inl (cI, 64, .inl FL_far)), ((aRO 4), .inl (cI, 2048, .inl o46_nROrest)), ((aRO 1), .inl (cI, 8, .inl RO_lie))] := hD.sub [2, 3, 4, 0, 5, 6, 1] (by decide) rfl
            exact j49 H locs ls o46_nROrest sFL_far_0_k26 hP hD hS (lv_sub hl [0, 1, 2, 3] rfl)
    refine lv_istore_n (lv' := [(3, .int 0), (0, .ref RO), (1, .int x0), (2, .int x1)]) hx hb dX7_layTour_25 rfl hl (by decide) rfl (fun ls hl => ?_)
    exact j26 257 H locs ls 0 RO_rest (zB_w (show zB 0 0 0 from ⟨by decide, by decide⟩) (by decide) (by decide)) s_FL_far_0 (zM_ui (show zB 0 0 0 from ⟨by decide, by decide⟩) (by decide)) hP hD hS (lv_sub hl [0, 1, 2, 3] rfl)
  · have bn19f_y18 : zB y18 1 255 := zB_neL c19 by18 (show zB 0 0 0 from ⟨by decide, by decide⟩) (by decide)
    refine lv_iconst (v := (-1)) hx hb dX7_layTour_22 (by decide) ?_
    exact up _ _ _ (W.iret (v := (-1)) hx hb hr (fun t ht hW => ⟨⟨(-1), (), rfl, trivial, ⟨RO_lying, RO_rest, RO_lie, b_RO_lying, by rw [ht]; exact hP, hD⟩⟩, hS.F ht⟩) hS.2.2 dX7_layTour_23)
set_option maxHeartbeats 4000000 in
set_option maxRecDepth 100000 in
theorem c_X2_asksBy (l : Launch) (D : va_G) (cI : ClassId) (cB : ClassId) (cL : ClassId) (cZ : ClassId) (cG : ClassId) (HU : Nat) (x0 : Int32) (x1 : Int32) (FL : Nat) (aHU : Nat → Nat) (PL : Nat) (aFL : Nat → Nat) (FL_parting : Int32) (FL_near : Nat → Int32) (HU_asks : Nat → Int32) (b_x0 : zB x0 0 255) (b_x1 : zB x1 0 11) : Met l yX2_asksBy wsX2_asksBy ({ frames := 1, cells := 0, slots := 0, locals := 21 }) (xr D [(cI, .int), (cB, .byte), (cL, .long), (cZ, .boolean), (cG, .array .int)] [(HU, .inr (2, oX2 FL aHU)), (FL, .inr (0, oX0 PL aFL FL_parting)), ((aFL 3), .inl (cI, 12, .inl FL_near)), ((aHU 1), .inl (cI, 256, .inl HU_asks))] [.ref HU, .int x0, .int x1]) (vp_Si (fun r => True)) 0 0 (fun _ => False) := by
  refine Met.ofW (cc := cX2_asksBy) (maxL := 6) (ret := (some .int)) (by decide) rfl ?_
  intro p e s m args below meth c s₁ B hml hv
  obtain ⟨rfl, hP, hK⟩ := hv
  have hx := B.exec
  have hb := B.bytes
  have hr := B.returns
  have hts := atoms_spec (ws := wsX2_asksBy) B.pre
  have hown : s.vm.findClass RX2 = some m.cls := findClass_of_methodNamed B.named
  have hlocks := B.notSynchronized
  clear B
  have hl := lv_entry ([.ref HU, .int x0, .int x1]) (n := 6) (Nat.le_of_ble_eq_true rfl)
  rw [lg_entry_eq]
  generalize (lg_sl ([.ref HU, .int x0, .int x1]) ++ List.replicate (6 - (lg_sl ([.ref HU, .int x0, .int x1])).length) Slot.unset).toArray = ls at hl ⊢
  replace hl : lv_has ls 6 [(0, .ref HU), (1, .int x0), (2, .int x1)] := hl
  refine zz_abs (R := ({ frames := 1, cells := 0, slots := 0, locals := 21 } : Room)) (fun Q up => ?_)
  refine lv_iload_n hx hb dX2_asksBy_0 rfl (lv_at hl 1 rfl) ?_
  refine lv_aload_n hx hb dX2_asksBy_1 rfl (lv_at hl 0 rfl) ?_
  refine va_get (D := D) (ci := 2) (v := .ref FL) (C := RX2) (T := TX2) (N := 2) hx hb hts iw_X2_asksBy_X2 hown hK hP 0 rfl rfl 0 (by decide) (hts (.fieldLink RX2 15 "SoldHouse$Hunter" "floor" "LSoldHouse$Floor;") (List.mem_of_getElem? (i := 1) rfl)) (fun _ h9 => h9) rfl dX2_asksBy_2 ?_
  refine va_get (D := D) (ci := 0) (v := .ref (aFL 3)) (C := RX0) (T := TX0) (N := 5) hx hb hts iw_X2_asksBy_X0 hown hK hP 1 rfl rfl 3 (by decide) (hts (.fieldLink RX2 47 "SoldHouse$Floor" "near" "[I") (List.mem_of_getElem? (i := 2) rfl)) (fun _ h9 => h9) rfl dX2_asksBy_5 ?_
  refine lv_iload_n hx hb dX2_asksBy_8 rfl (lv_at hl 2 rfl) ?_
  refine va_iald hx hb hK hP 2 0 rfl rfl (zB_in b_x1 (by decide) (by decide)) dX2_asksBy_9 ?_
  refine lv_topi (fun y9 _ => ?_)
  refine lv_iand hx hb dX2_asksBy_10 ?_
  refine zi_top (a := 0) (b := 255) (zB_andl b_x0 (by decide)) (fun y10 by10 => ?_)
  refine lv_istore_n (lv' := [(3, .int y10), (0, .ref HU), (1, .int x0), (2, .int x1)]) hx hb dX2_asksBy_11 rfl hl (by decide) rfl (fun ls hl => ?_)
  refine lv_iload_n hx hb dX2_asksBy_12 rfl (lv_at hl 2 rfl) ?_
  refine lv_iload_n hx hb dX2_asksBy_13 rfl (lv_at hl 0 rfl) ?_
  refine lv_iconst (v := (-1)) hx hb dX2_asksBy_14 (by decide) ?_
  refine lv_ixor hx hb dX2_asksBy_15 ?_
  refine zi_top (a := (-256)) (b := (-1)) (zB_not by10 (by decide) (by decide)) (fun y15 by15 => ?_)
  refine lv_iand hx hb dX2_asksBy_16 ?_
  refine zi_top (a := 0) (b := 255) (zB_andl b_x0 (by decide)) (fun y16 by16 => ?_)
  refine lv_istore (lv' := [(4, .int y16), (3, .int y10), (0, .ref HU), (1, .int x0), (2, .int x1)]) hx hb dX2_asksBy_17 hl (by decide) rfl (fun ls hl => ?_)
  refine lv_aload_n hx hb dX2_asksBy_19 rfl (lv_at hl 2 rfl) ?_
  refine va_get (D := D) (ci := 2) (v := .ref FL) (C := RX2) (T := TX2) (N := 2) hx hb hts iw_X2_asksBy_X2 hown hK hP 0 rfl rfl 0 (by decide) (hts (.fieldLink RX2 15 "SoldHouse$Hunter" "floor" "LSoldHouse$Floor;") (List.mem_of_getElem? (i := 1) rfl)) (fun _ h9 => h9) rfl dX2_asksBy_20 ?_
  refine va_get (D := D) (ci := 0) (v := .int FL_parting) (C := RX0) (T := TX0) (N := 5) hx hb hts iw_X2_asksBy_X0 hown hK hP 1 rfl rfl 4 (by decide) (hts (.fieldLink RX2 50 "SoldHouse$Floor" "parting" "I") (List.mem_of_getElem? (i := 3) rfl)) (fun _ h9 => h9) rfl dX2_asksBy_23 ?_
  refine lv_iload_n hx hb dX2_asksBy_26 rfl (lv_at hl 4 rfl) ?_
  refine lv_ishr hx hb dX2_asksBy_27 ?_
  refine lv_topi (fun y27 _ => ?_)
  refine lv_iconst (v := 1) hx hb dX2_asksBy_28 (by decide) ?_
  refine lv_iand hx hb dX2_asksBy_29 ?_
  refine zi_top (a := 0) (b := 1) (zB_andr (show zB 1 1 1 from ⟨by decide, by decide⟩) (by decide)) (fun y29 by29 => ?_)
  refine lv_iconst (v := 1) hx hb dX2_asksBy_30 (by decide) ?_
  have j48 : ∀ (ls : Array Slot) (u48_0 : Int32), zB u48_0 0 1 → lv_has ls 6 [(4, .int y16), (3, .int y10), (0, .ref HU), (1, .int x0), (2, .int x1)] → W p l e ({ frames := 1, cells := 0, slots := 0, locals := 21 } : Room) s m ([.ref HU, .int x0, .int x1] : List Value).toArray below meth c s.heap [] 0 0 Q (F0 m 48 ls [.int u48_0]) := by
    intro ls u48_0 bu48_0_k48 hl
    refine lv_istore (lv' := [(5, .int u48_0), (4, .int y16), (3, .int y10), (0, .ref HU), (1, .int x0), (2, .int x1)]) hx hb dX2_asksBy_48 hl (by decide) rfl (fun ls hl => ?_)
    refine lv_iload hx hb dX2_asksBy_50 (lv_at hl 0 rfl) ?_
    refine lv_if_eq (tgt := 76) hx hb dX2_asksBy_52 (by decide) (fun c52 => ?_) (fun c52 => ?_)
    · have be52t_u48_0 : zB u48_0 0 0 := zB_eq c52 bu48_0_k48 (show zB 0 0 0 from ⟨by decide, by decide⟩) (by decide) (by decide)
      refine lv_iconst (v := (-1)) hx hb dX2_asksBy_76 (by decide) ?_
      exact up _ _ _ (W.iret (v := (-1)) hx hb hr (fun t ht hW => ⟨(-1), rfl, trivial, ht⟩) (fun q hq => by cases hq) dX2_asksBy_77)
    · have bn52f_u48_0 : zB u48_0 1 1 := zB_neL c52 bu48_0_k48 (show zB 0 0 0 from ⟨by decide, by decide⟩) (by decide)
      refine lv_aload_n hx hb dX2_asksBy_55 rfl (lv_at hl 3 rfl) ?_
      refine va_get (D := D) (ci := 2) (v := .ref (aHU 1)) (C := RX2) (T := TX2) (N := 2) hx hb hts iw_X2_asksBy_X2 hown hK hP 0 rfl rfl 1 (by decide) (hts (.fieldLink RX2 9 "SoldHouse$Hunter" "asks" "[I") (List.mem_of_getElem? (i := 4) rfl)) (fun _ h9 => h9) rfl dX2_asksBy_56 ?_
      refine lv_iload_n hx hb dX2_asksBy_59 rfl (lv_at hl 2 rfl) ?_
      refine va_iald hx hb hK hP 3 0 rfl rfl (zB_in by10 (by decide) (by decide)) dX2_asksBy_60 ?_
      refine lv_topi (fun y60 _ => ?_)
      refine lv_iconst (v := (-1)) hx hb dX2_asksBy_61 (by decide) ?_
      refine lv_icmp_eq (tgt := 76) hx hb dX2_asksBy_62 (by decide) (fun c62 => ?_) (fun c62 => ?_)
      · have be62t_y60 : zB y60 (-1) (-1) := zB_eq c62 (zB_top y60) (show zB (-1) (-1) (-1) from ⟨by decide, by decide⟩) (by decide) (by decide)
        refine lv_iconst (v := (-1)) hx hb dX2_asksBy_76 (by decide) ?_
        exact up _ _ _ (W.iret (v := (-1)) hx hb hr (fun t ht hW => ⟨(-1), rfl, trivial, ht⟩) (fun q hq => by cases hq) dX2_asksBy_77)
      · refine lv_aload_n hx hb dX2_asksBy_65 rfl (lv_at hl 3 rfl) ?_
        refine va_get (D := D) (ci := 2) (v := .ref (aHU 1)) (C := RX2) (T := TX2) (N := 2) hx hb hts iw_X2_asksBy_X2 hown hK hP 0 rfl rfl 1 (by decide) (hts (.fieldLink RX2 9 "SoldHouse$Hunter" "asks" "[I") (List.mem_of_getElem? (i := 4) rfl)) (fun _ h9 => h9) rfl dX2_asksBy_66 ?_
        refine lv_iload hx hb dX2_asksBy_69 (lv_at hl 1 rfl) ?_
        refine va_iald hx hb hK hP 3 0 rfl rfl (zB_in by16 (by decide) (by decide)) dX2_asksBy_71 ?_
        refine lv_topi (fun y71 _ => ?_)
        refine lv_iconst (v := (-1)) hx hb dX2_asksBy_72 (by decide) ?_
        refine lv_icmp_ne (tgt := 78) hx hb dX2_asksBy_73 (by decide) (fun c73 => ?_) (fun c73 => ?_)
        · refine lv_iconst (v := 1) hx hb dX2_asksBy_78 (by decide) ?_
          refine lv_aload_n hx hb dX2_asksBy_79 rfl (lv_at hl 3 rfl) ?_
          refine va_get (D := D) (ci := 2) (v := .ref (aHU 1)) (C := RX2) (T := TX2) (N := 2) hx hb hts iw_X2_asksBy_X2 hown hK hP 0 rfl rfl 1 (by decide) (hts (.fieldLink RX2 9 "SoldHouse$Hunter" "asks" "[I") (List.mem_of_getElem? (i := 4) rfl)) (fun _ h9 => h9) rfl dX2_asksBy_80 ?_
          refine lv_iload_n hx hb dX2_asksBy_83 rfl (lv_at hl 2 rfl) ?_
          refine va_iald hx hb hK hP 3 0 rfl rfl (zB_in by10 (by decide) (by decide)) dX2_asksBy_84 ?_
          refine lv_topi (fun y84 _ => ?_)
          refine lv_aload_n hx hb dX2_asksBy_85 rfl (lv_at hl 3 rfl) ?_
          refine va_get (D := D) (ci := 2) (v := .ref (aHU 1)) (C := RX2) (T := TX2) (N := 2) hx hb hts iw_X2_asksBy_X2 hown hK hP 0 rfl rfl 1 (by decide) (hts (.fieldLink RX2 9 "SoldHouse$Hunter" "asks" "[I") (List.mem_of_getElem? (i := 4) rfl)) (fun _ h9 => h9) rfl dX2_asksBy_86 ?_
          refine lv_iload hx hb dX2_asksBy_89 (lv_at hl 1 rfl) ?_
          refine va_iald hx hb hK hP 3 0 rfl rfl (zB_in by16 (by decide) (by decide)) dX2_asksBy_91 ?_
          refine lv_topi (fun y91 _ => ?_)
          refine va_mmax hx hb (by rw [hml]; exact hl.1.symm) hown (hts (.methodLink RX2 53 Lib.Math.max.name) (List.mem_of_getElem? (i := 5) rfl)) (hts (.static Lib.Math.max.name) (List.mem_of_getElem? (i := 6) rfl)) (hts (.initialized "java/lang/Math") (List.mem_of_getElem? (i := 7) rfl)) (hts (.code Lib.Math.max.name Lib.Math.max.code 2 (some .int)) (List.mem_of_getElem? (i := 8) rfl)) (Nat.le_of_ble_eq_true rfl) (Nat.le_of_ble_eq_true rfl) (Nat.le_of_ble_eq_true rfl) (Nat.le_of_ble_eq_true rfl) dX2_asksBy_92 ?_
          refine lv_topi (fun y92 _ => ?_)
          refine lv_iadd hx hb dX2_asksBy_95 ?_
          refine lv_topi (fun y95 _ => ?_)
          exact up _ _ _ (W.iret (v := y95) hx hb hr (fun t ht hW => ⟨y95, rfl, trivial, ht⟩) (fun q hq => by cases hq) dX2_asksBy_96)
        · have be73f_y71 : zB y71 (-1) (-1) := zB_eq c73 (zB_top y71) (show zB (-1) (-1) (-1) from ⟨by decide, by decide⟩) (by decide) (by decide)
          refine lv_iconst (v := (-1)) hx hb dX2_asksBy_76 (by decide) ?_
          exact up _ _ _ (W.iret (v := (-1)) hx hb hr (fun t ht hW => ⟨(-1), rfl, trivial, ht⟩) (fun q hq => by cases hq) dX2_asksBy_77)
  have j47 : ∀ (ls : Array Slot), lv_has ls 6 [(4, .int y16), (3, .int y10), (0, .ref HU), (1, .int x0), (2, .int x1)] → W p l e ({ frames := 1, cells := 0, slots := 0, locals := 21 } : Room) s m ([.ref HU, .int x0, .int x1] : List Value).toArray below meth c s.heap [] 0 0 Q (F0 m 47 ls []) := by
    intro ls hl
    refine lv_iconst (v := 0) hx hb dX2_asksBy_47 (by decide) ?_
    exact j48 ls 0 (zB_w (show zB 0 0 0 from ⟨by decide, by decide⟩) (by decide) (by decide)) (lv_sub hl [0, 1, 2, 3, 4] rfl)
  refine lv_icmp_ne (tgt := 47) hx hb dX2_asksBy_31 (by decide) (fun c31 => ?_) (fun c31 => ?_)
  · have bn31t_y29 : zB y29 0 0 := zB_neH c31 by29 (show zB 1 1 1 from ⟨by decide, by decide⟩) (by decide)
    exact j47 ls (lv_sub hl [0, 1, 2, 3, 4] rfl)
  · have be31f_y29 : zB y29 1 1 := zB_eq c31 by29 (show zB 1 1 1 from ⟨by decide, by decide⟩) (by decide) (by decide)
    refine lv_iload_n hx hb dX2_asksBy_34 rfl (lv_at hl 1 rfl) ?_
    refine lv_if_eq (tgt := 47) hx hb dX2_asksBy_35 (by decide) (fun c35 => ?_) (fun c35 => ?_)
    · have be35t_y10 : zB y10 0 0 := zB_eq c35 by10 (show zB 0 0 0 from ⟨by decide, by decide⟩) (by decide) (by decide)
      exact j47 ls (lv_sub hl [0, 1, 2, 3, 4] rfl)
    · have bn35f_y10 : zB y10 1 255 := zB_neL c35 by10 (show zB 0 0 0 from ⟨by decide, by decide⟩) (by decide)
      refine lv_iload hx hb dX2_asksBy_38 (lv_at hl 0 rfl) ?_
      refine lv_if_eq (tgt := 47) hx hb dX2_asksBy_40 (by decide) (fun c40 => ?_) (fun c40 => ?_)
      · have be40t_y16 : zB y16 0 0 := zB_eq c40 by16 (show zB 0 0 0 from ⟨by decide, by decide⟩) (by decide) (by decide)
        exact j47 ls (lv_sub hl [0, 1, 2, 3, 4] rfl)
      · have bn40f_y16 : zB y16 1 255 := zB_neL c40 by16 (show zB 0 0 0 from ⟨by decide, by decide⟩) (by decide)
        refine lv_iconst (v := 1) hx hb dX2_asksBy_43 (by decide) ?_
        refine lv_goto (tgt := 48) hx hb dX2_asksBy_44 (by decide) ?_
        exact j48 ls 1 (zB_w (show zB 1 1 1 from ⟨by decide, by decide⟩) (by decide) (by decide)) (lv_sub hl [0, 1, 2, 3, 4] rfl)
set_option maxHeartbeats 4000000 in
set_option maxRecDepth 100000 in
theorem c_X2_bestDoor (l : Launch) (D : va_G) (cI : ClassId) (cB : ClassId) (cL : ClassId) (cZ : ClassId) (cG : ClassId) (HU : Nat) (x0 : Int32) (FL : Nat) (aHU : Nat → Nat) (PL : Nat) (aFL : Nat → Nat) (FL_parting : Int32) (PL_rooms : Int32) (aPL : Nat → Nat) (PL_doors : Int32) (PL_things : Int32) (FO : Nat) (PL_draw : Int32) (PL_drawTold : Int32) (FL_near : Nat → Int32) (HU_asks : Nat → Int32) (b_x0 : zB x0 0 255) (b_PL_rooms : zB PL_rooms 0 8) (b_PL_doors : zB PL_doors 0 12) (b_PL_things : zB PL_things 0 6) : Met l yX2_bestDoor wsX2_bestDoor ({ frames := 2, cells := 0, slots := 0, locals := 46 }) (xr D [(cI, .int), (cB, .byte), (cL, .long), (cZ, .boolean), (cG, .array .int)] [(HU, .inr (2, oX2 FL aHU)), (FL, .inr (0, oX0 PL aFL FL_parting)), (PL, .inr (5, oX5 FO aPL PL_rooms PL_doors PL_things PL_draw PL_drawTold)), ((aFL 3), .inl (cI, 12, .inl FL_near)), ((aHU 1), .inl (cI, 256, .inl HU_asks))] [.ref HU, .int x0]) (vp_Si (fun r => zB r (-1) 11)) 0 0 (fun _ => False) := by
  refine Met.ofW (cc := cX2_bestDoor) (maxL := 5) (ret := (some .int)) (by decide) rfl ?_
  intro p e s m args below meth c s₁ B hml hv
  obtain ⟨rfl, hP, hK⟩ := hv
  have hx := B.exec
  have hb := B.bytes
  have hr := B.returns
  have hts := atoms_spec (ws := wsX2_bestDoor) B.pre
  have hown : s.vm.findClass RX2 = some m.cls := findClass_of_methodNamed B.named
  have hlocks := B.notSynchronized
  clear B
  have hl := lv_entry ([.ref HU, .int x0]) (n := 5) (Nat.le_of_ble_eq_true rfl)
  rw [lg_entry_eq]
  generalize (lg_sl ([.ref HU, .int x0]) ++ List.replicate (5 - (lg_sl ([.ref HU, .int x0])).length) Slot.unset).toArray = ls at hl ⊢
  replace hl : lv_has ls 5 [(0, .ref HU), (1, .int x0)] := hl
  refine zz_abs (R := ({ frames := 2, cells := 0, slots := 0, locals := 46 } : Room)) (fun Q up => ?_)
  refine lv_iconst (v := (-1)) hx hb dX2_bestDoor_0 (by decide) ?_
  refine lv_istore_n (lv' := [(2, .int (-1)), (0, .ref HU), (1, .int x0)]) hx hb dX2_bestDoor_1 rfl hl (by decide) rfl (fun ls hl => ?_)
  refine lv_iconst (v := 0) hx hb dX2_bestDoor_2 (by decide) ?_
  have j4 : ∀ (n4 : Nat) (ls : Array Slot) (v4_3 : Int32) (v4_2 : Int32), zB v4_3 0 12 → zB v4_2 (-1) 11 → (12 + 1 - v4_3.toInt) ≤ (n4 : Int) → lv_has ls 5 [(3, .int v4_3), (2, .int v4_2), (0, .ref HU), (1, .int x0)] → W p l e ({ frames := 2, cells := 0, slots := 0, locals := 46 } : Room) s m ([.ref HU, .int x0] : List Value).toArray below meth c s.heap [] 0 0 Q (F0 m 4 ls []) := by
    intro n4
    induction n4 with
    | zero => intro ls v4_3 v4_2 bv4_3_k4 bv4_2_k4 hm4 hl; exact zM_u0 bv4_3_k4 hm4
    | succ n4 ih4 =>
      intro ls v4_3 v4_2 bv4_3_k4 bv4_2_k4 hm4 hl
      refine lv_iload_n hx hb dX2_bestDoor_4 rfl (lv_at hl 0 rfl) ?_
      refine lv_aload_n hx hb dX2_bestDoor_5 rfl (lv_at hl 2 rfl) ?_
      refine va_get (D := D) (ci := 2) (v := .ref FL) (C := RX2) (T := TX2) (N := 2) hx hb hts iw_X2_bestDoor_X2 hown hK hP 0 rfl rfl 0 (by decide) (hts (.fieldLink RX2 15 "SoldHouse$Hunter" "floor" "LSoldHouse$Floor;") (List.mem_of_getElem? (i := 1) rfl)) (fun _ h9 => h9) rfl dX2_bestDoor_6 ?_
      refine va_get (D := D) (ci := 0) (v := .ref PL) (C := RX0) (T := TX0) (N := 5) hx hb hts iw_X2_bestDoor_X0 hown hK hP 1 rfl rfl 0 (by decide) (hts (.fieldLink RX2 35 "SoldHouse$Floor" "plan" "LSoldHouse$Plan;") (List.mem_of_getElem? (i := 2) rfl)) (fun _ h9 => h9) rfl dX2_bestDoor_9 ?_
      refine va_get (D := D) (ci := 5) (v := .int PL_doors) (C := RX5) (T := TX5) (N := 16) hx hb hts iw_X2_bestDoor_X5 hown hK hP 2 rfl rfl 3 (by decide) (hts (.fieldLink RX2 41 "SoldHouse$Plan" "doors" "I") (List.mem_of_getElem? (i := 3) rfl)) (fun _ h9 => h9) rfl dX2_bestDoor_12 ?_
      refine lv_icmp_ge (tgt := 56) hx hb dX2_bestDoor_15 (by decide) (fun c15 => ?_) (fun c15 => ?_)
      · refine lv_iload_n hx hb dX2_bestDoor_56 rfl (lv_at hl 1 rfl) ?_
        exact up _ _ _ (W.iret (v := v4_2) hx hb hr (fun t ht hW => ⟨v4_2, rfl, bv4_2_k4, ht⟩) (fun q hq => by cases hq) dX2_bestDoor_57)
      · have bx15f_v4_3 : zB v4_3 0 11 := zB_ltu (zf c15) bv4_3_k4 b_PL_doors (by decide)
        have by15f_PL_doors : zB PL_doors 1 12 := zB_ltv (zf c15) bx15f_v4_3 b_PL_doors (by decide)
        refine lv_aload_n hx hb dX2_bestDoor_18 rfl (lv_at hl 2 rfl) ?_
        refine lv_iload_n hx hb dX2_bestDoor_19 rfl (lv_at hl 3 rfl) ?_
        refine lv_iload_n hx hb dX2_bestDoor_20 rfl (lv_at hl 0 rfl) ?_
        have hPc := hP.sub (ws' := [(HU, .inr (2, oX2 FL aHU)), (FL, .inr (0, oX0 PL aFL FL_parting)), ((aFL 3), .inl (cI, 12, .inl FL_near)), ((aHU 1), .inl (cI, 256, .inl HU_asks))]) [0, 1, 3, 4] rfl
        refine vp_callSi (va_runV (As := [.int x0, .int v4_3]) (rest := []) ⟨hx, hb, hml, hown, hts⟩ (c_X2_asksBy l D cI cB cL cZ cG HU x0 v4_3 FL aHU PL aFL FL_parting FL_near HU_asks b_x0 bx15f_v4_3) (cwV 2 hts gX2_bestDoor_X2_asksBy rfl rfl rfl (by decide +kernel) ⟨Nat.le_of_ble_eq_true rfl, Nat.le_of_ble_eq_true rfl⟩) ⟨xr_blind, va_recv hK hP (ci := 2) (q0 := 0) rfl rfl, fun U hU hW => xr_mk hU hW hPc hK⟩ rfl rfl hl.1 rfl (lv_room (Nat.le_of_ble_eq_true rfl)) dX2_bestDoor_21 ⟨Nat.le_of_ble_eq_true rfl, Nat.le_of_ble_eq_true rfl⟩).run (fun r21 hr21 => ?_)
        clear hPc
        clear hr21
        refine lv_istore (lv' := [(4, .int r21), (3, .int v4_3), (2, .int v4_2), (0, .ref HU), (1, .int x0)]) hx hb dX2_bestDoor_24 hl (by decide) rfl (fun ls hl => ?_)
        refine lv_iload hx hb dX2_bestDoor_26 (lv_at hl 0 rfl) ?_
        refine lv_iconst (v := (-1)) hx hb dX2_bestDoor_28 (by decide) ?_
        have j50 : ∀ (ls : Array Slot) (v50_2 : Int32), zB v50_2 (-1) 11 → lv_has ls 5 [(4, .int r21), (3, .int v4_3), (2, .int v50_2), (0, .ref HU), (1, .int x0)] → W p l e ({ frames := 2, cells := 0, slots := 0, locals := 46 } : Room) s m ([.ref HU, .int x0] : List Value).toArray below meth c s.heap [] 0 0 Q (F0 m 50 ls []) := by
          intro ls v50_2 bv50_2_k50 hl
          obtain ⟨y50, by50, ry50, ey50⟩ := zi_inc (x := v4_3) (k := 1) (a := 1) (b := 12) bx15f_v4_3 (by decide) (by decide) (by decide) (by decide) (by decide)
          refine lv_iinc (v := y50) (lv' := [(3, .int y50), (4, .int r21), (2, .int v50_2), (0, .ref HU), (1, .int x0)]) hx hb dX2_bestDoor_50 hl (k := 1) rfl ey50 (by decide) rfl (fun ls hl => ?_)
          refine lv_goto (tgt := 4) hx hb dX2_bestDoor_53 (by decide) ?_
          exact ih4 ls y50 v50_2 (zB_w by50 (by decide) (by decide)) bv50_2_k50 (zM_us (k := 1) hm4 ry50 (by decide)) (lv_sub hl [0, 2, 3, 4] rfl)
        refine lv_icmp_eq (tgt := 50) hx hb dX2_bestDoor_29 (by decide) (fun c29 => ?_) (fun c29 => ?_)
        · have be29t_r21 : zB r21 (-1) (-1) := zB_eq c29 (zB_top r21) (show zB (-1) (-1) (-1) from ⟨by decide, by decide⟩) (by decide) (by decide)
          exact j50 ls v4_2 bv4_2_k4 (lv_sub hl [0, 1, 2, 3, 4] rfl)
        · refine lv_iload_n hx hb dX2_bestDoor_32 rfl (lv_at hl 2 rfl) ?_
          refine lv_iconst (v := (-1)) hx hb dX2_bestDoor_33 (by decide) ?_
          have j48 : ∀ (ls : Array Slot), lv_has ls 5 [(4, .int r21), (3, .int v4_3), (2, .int v4_2), (0, .ref HU), (1, .int x0)] → W p l e ({ frames := 2, cells := 0, slots := 0, locals := 46 } : Room) s m ([.ref HU, .int x0] : List Value).toArray below meth c s.heap [] 0 0 Q (F0 m 48 ls []) := by
            intro ls hl
            refine lv_iload_n hx hb dX2_bestDoor_48 rfl (lv_at hl 1 rfl) ?_
            refine lv_istore_n (lv' := [(2, .int v4_3), (4, .int r21), (3, .int v4_3), (0, .ref HU), (1, .int x0)]) hx hb dX2_bestDoor_49 rfl hl (by decide) rfl (fun ls hl => ?_)
            exact j50 ls v4_3 (zB_w bx15f_v4_3 (by decide) (by decide)) (lv_sub hl [1, 2, 0, 3, 4] rfl)
          refine lv_icmp_eq (tgt := 48) hx hb dX2_bestDoor_34 (by decide) (fun c34 => ?_) (fun c34 => ?_)
          · have be34t_v4_2 : zB v4_2 (-1) (-1) := zB_eq c34 bv4_2_k4 (show zB (-1) (-1) (-1) from ⟨by decide, by decide⟩) (by decide) (by decide)
            exact j48 ls (lv_sub hl [0, 1, 2, 3, 4] rfl)
          · have bn34f_v4_2 : zB v4_2 0 11 := zB_neL c34 bv4_2_k4 (show zB (-1) (-1) (-1) from ⟨by decide, by decide⟩) (by decide)
            refine lv_iload hx hb dX2_bestDoor_37 (lv_at hl 0 rfl) ?_
            refine lv_aload_n hx hb dX2_bestDoor_39 rfl (lv_at hl 3 rfl) ?_
            refine lv_iload_n hx hb dX2_bestDoor_40 rfl (lv_at hl 4 rfl) ?_
            refine lv_iload_n hx hb dX2_bestDoor_41 rfl (lv_at hl 2 rfl) ?_
            have hPc := hP.sub (ws' := [(HU, .inr (2, oX2 FL aHU)), (FL, .inr (0, oX0 PL aFL FL_parting)), ((aFL 3), .inl (cI, 12, .inl FL_near)), ((aHU 1), .inl (cI, 256, .inl HU_asks))]) [0, 1, 3, 4] rfl
            refine vp_callSi (va_runV (As := [.int x0, .int v4_2]) (rest := [.int r21]) ⟨hx, hb, hml, hown, hts⟩ (c_X2_asksBy l D cI cB cL cZ cG HU x0 v4_2 FL aHU PL aFL FL_parting FL_near HU_asks b_x0 bn34f_v4_2) (cwV 2 hts gX2_bestDoor_X2_asksBy rfl rfl rfl (by decide +kernel) ⟨Nat.le_of_ble_eq_true rfl, Nat.le_of_ble_eq_true rfl⟩) ⟨xr_blind, va_recv hK hP (ci := 2) (q0 := 0) rfl rfl, fun U hU hW => xr_mk hU hW hPc hK⟩ rfl rfl hl.1 rfl (lv_room (Nat.le_of_ble_eq_true rfl)) dX2_bestDoor_42 ⟨Nat.le_of_ble_eq_true rfl, Nat.le_of_ble_eq_true rfl⟩).run (fun r42 hr42 => ?_)
            clear hPc
            clear hr42
            refine lv_icmp_ge (tgt := 50) hx hb dX2_bestDoor_45 (by decide) (fun c45 => ?_) (fun c45 => ?_)
            · exact j50 ls v4_2 (zB_w bn34f_v4_2 (by decide) (by decide)) (lv_sub hl [0, 1, 2, 3, 4] rfl)
            · have bx45f_r21 : zB r21 (-2147483648) 2147483646 := zB_ltu (zf c45) (zB_top r21) (zB_top r42) (by decide)
              have by45f_r42 : zB r42 (-2147483647) 2147483647 := zB_ltv (zf c45) bx45f_r21 (zB_top r42) (by decide)
              exact j48 ls (lv_sub hl [0, 1, 2, 3, 4] rfl)
  refine lv_istore_n (lv' := [(3, .int 0), (2, .int (-1)), (0, .ref HU), (1, .int x0)]) hx hb dX2_bestDoor_3 rfl hl (by decide) rfl (fun ls hl => ?_)
  exact j4 13 ls 0 (-1) (zB_w (show zB 0 0 0 from ⟨by decide, by decide⟩) (by decide) (by decide)) (zB_w (show zB (-1) (-1) (-1) from ⟨by decide, by decide⟩) (by decide) (by decide)) (zM_ui (show zB 0 0 0 from ⟨by decide, by decide⟩) (by decide)) (lv_sub hl [0, 1, 2, 3] rfl)
set_option maxHeartbeats 4000000 in
set_option maxRecDepth 100000 in
theorem c_X2_fewestAsks (l : Launch) (D : va_G) (cI : ClassId) (cB : ClassId) (cL : ClassId) (cZ : ClassId) (cG : ClassId) (HU : Nat) (x0 : Int32) (FL : Nat) (aHU : Nat → Nat) (HU_asks : Nat → Int32) (PL : Nat) (aFL : Nat → Nat) (FL_parting : Int32) (PL_rooms : Int32) (aPL : Nat → Nat) (PL_doors : Int32) (PL_things : Int32) (FO : Nat) (PL_draw : Int32) (PL_drawTold : Int32) (FL_near : Nat → Int32) (sz : Nat) (b_x0 : zB x0 0 255) (b_PL_rooms : zB PL_rooms 0 8) (b_PL_doors : zB PL_doors 0 12) (b_PL_things : zB PL_things 0 6) : Met l yX2_fewestAsks wsX2_fewestAsks ({ frames := 3, cells := 0, slots := 0, locals := 70 }) (xp D [(cI, .int), (cB, .byte), (cL, .long), (cZ, .boolean), (cG, .array .int)] [(HU, .inr (2, oX2 FL aHU)), ((aHU 1), .inl (cI, 256, .inl HU_asks)), (FL, .inr (0, oX0 PL aFL FL_parting)), (PL, .inr (5, oX5 FO aPL PL_rooms PL_doors PL_things PL_draw PL_drawTold)), ((aFL 3), .inl (cI, 12, .inl FL_near))] sz [] [.ref HU, .int x0]) (va_Qi (fun (r : Int32) (_ : Unit) => True) (fun (_ : Unit) (t : State) => ∃ (nHUasks : Nat → Int32), xB D (va_A [(HU, .inr (2, oX2 FL aHU)), ((aHU 1), .inl (cI, 256, .inl HU_asks)), (FL, .inr (0, oX0 PL aFL FL_parting)), (PL, .inr (5, oX5 FO aPL PL_rooms PL_doors PL_things PL_draw PL_drawTold)), ((aFL 3), .inl (cI, 12, .inl FL_near))] sz) [(HU, .inr (2, oX2 FL aHU)), ((aHU 1), .inl (cI, 256, .inl nHUasks)), (FL, .inr (0, oX0 PL aFL FL_parting)), (PL, .inr (5, oX5 FO aPL PL_rooms PL_doors PL_things PL_draw PL_drawTold)), ((aFL 3), .inl (cI, 12, .inl FL_near))] t) (va_A [(HU, .inr (2, oX2 FL aHU)), ((aHU 1), .inl (cI, 256, .inl HU_asks)), (FL, .inr (0, oX0 PL aFL FL_parting)), (PL, .inr (5, oX5 FO aPL PL_rooms PL_doors PL_things PL_draw PL_drawTold)), ((aFL 3), .inl (cI, 12, .inl FL_near))] sz)) 0 0 (va_A [(HU, .inr (2, oX2 FL aHU)), ((aHU 1), .inl (cI, 256, .inl HU_asks)), (FL, .inr (0, oX0 PL aFL FL_parting)), (PL, .inr (5, oX5 FO aPL PL_rooms PL_doors PL_things PL_draw PL_drawTold)), ((aFL 3), .inl (cI, 12, .inl FL_near))] sz) := by
  refine Met.ofW (cc := cX2_fewestAsks) (maxL := 5) (ret := (some .int)) (by decide) rfl ?_
  intro p e s m args below meth c s₁ B hml hv
  obtain ⟨rfl, hsz, hP, hK, hD0, hNw⟩ := hv
  have hx := B.exec
  have hb := B.bytes
  have hr := B.returns
  have hts := atoms_spec (ws := wsX2_fewestAsks) B.pre
  have hown : s.vm.findClass RX2 = some m.cls := findClass_of_methodNamed B.named
  have hlocks := B.notSynchronized
  clear B
  subst hsz
  have hD := hD0.self (sz := s.heap.size)
  clear hD0 hNw
  generalize hAe : va_A [(HU, .inr (2, oX2 FL aHU)), ((aHU 1), .inl (cI, 256, .inl HU_asks)), (FL, .inr (0, oX0 PL aFL FL_parting)), (PL, .inr (5, oX5 FO aPL PL_rooms PL_doors PL_things PL_draw PL_drawTold)), ((aFL 3), .inl (cI, 12, .inl FL_near))] s.heap.size = A at hD ⊢
  have hA : ∀ q : Nat, s.heap.size ≤ q → A q := fun q h => by rw [← hAe]; exact Or.inr h
  have hS : va_S A s.heap s.heap [] := va_S.rf
  clear hAe
  obtain ⟨H, hH⟩ : ∃ H : Heap, H = s.heap := ⟨_, rfl⟩
  obtain ⟨locs, hlocs⟩ : ∃ L : List Loc, L = [] := ⟨_, rfl⟩
  replace hP : va_P D classes [(HU, .inr (2, oX2 FL aHU)), ((aHU 1), .inl (cI, 256, .inl HU_asks)), (FL, .inr (0, oX0 PL aFL FL_parting)), (PL, .inr (5, oX5 FO aPL PL_rooms PL_doors PL_things PL_draw PL_drawTold)), ((aFL 3), .inl (cI, 12, .inl FL_near))] H := by rw [hH]; exact hP
  replace hS : va_S A s.heap H locs := by rw [hH, hlocs]; exact hS
  rw [← hH, ← hlocs]
  clear hlocs hH
  have hl := lv_entry ([.ref HU, .int x0]) (n := 5) (Nat.le_of_ble_eq_true rfl)
  rw [lg_entry_eq]
  generalize (lg_sl ([.ref HU, .int x0]) ++ List.replicate (5 - (lg_sl ([.ref HU, .int x0])).length) Slot.unset).toArray = ls at hl ⊢
  replace hl : lv_has ls 5 [(0, .ref HU), (1, .int x0)] := hl
  refine zz_abs (R := ({ frames := 3, cells := 0, slots := 0, locals := 70 } : Room)) (fun Q up => ?_)
  refine lv_iconst (v := 1) hx hb dX2_fewestAsks_0 (by decide) ?_
  have j2 : ∀ (n2 : Nat) (H : Heap) (locs : List Loc) (ls : Array Slot) (v2_2 : Int32) (g2_aHU1 : Nat → Int32), zB v2_2 1 256 → (256 + 1 - v2_2.toInt) ≤ (n2 : Int) → va_P D classes [(HU, .inr (2, oX2 FL aHU)), ((aHU 1), .inl (cI, 256, .inl g2_aHU1)), (FL, .inr (0, oX0 PL aFL FL_parting)), (PL, .inr (5, oX5 FO aPL PL_rooms PL_doors PL_things PL_draw PL_drawTold)), ((aFL 3), .inl (cI, 12, .inl FL_near))] H → va_D A [(HU, .inr (2, oX2 FL aHU)), ((aHU 1), .inl (cI, 256, .inl g2_aHU1)), (FL, .inr (0, oX0 PL aFL FL_parting)), (PL, .inr (5, oX5 FO aPL PL_rooms PL_doors PL_things PL_draw PL_drawTold)), ((aFL 3), .inl (cI, 12, .inl FL_near))] → va_S A s.heap H locs → lv_has ls 5 [(2, .int v2_2), (0, .ref HU), (1, .int x0)] → W p l e ({ frames := 3, cells := 0, slots := 0, locals := 70 } : Room) s m ([.ref HU, .int x0] : List Value).toArray below meth c H locs 0 0 Q (F0 m 2 ls []) := by
    intro n2
    induction n2 with
    | zero => intro H locs ls v2_2 g2_aHU1 bv2_2_k2 hm2 hP hD hS hl; exact zM_u0 bv2_2_k2 hm2
    | succ n2 ih2 =>
      intro H locs ls v2_2 g2_aHU1 bv2_2_k2 hm2 hP hD hS hl
      refine lv_iload_n hx hb dX2_fewestAsks_2 rfl (lv_at hl 0 rfl) ?_
      refine lv_iload_n hx hb dX2_fewestAsks_3 rfl (lv_at hl 2 rfl) ?_
      refine lv_icmp_gt (tgt := 64) hx hb dX2_fewestAsks_4 (by decide) (fun c4 => ?_) (fun c4 => ?_)
      · refine lv_aload_n hx hb dX2_fewestAsks_64 rfl (lv_at hl 1 rfl) ?_
        refine va_get (D := D) (ci := 2) (v := .ref (aHU 1)) (C := RX2) (T := TX2) (N := 2) hx hb hts iw_X2_fewestAsks_X2 hown hK hP 0 rfl rfl 1 (by decide) (hts (.fieldLink RX2 9 "SoldHouse$Hunter" "asks" "[I") (List.mem_of_getElem? (i := 1) rfl)) (fun _ h9 => h9) rfl dX2_fewestAsks_65 ?_
        refine lv_iload_n hx hb dX2_fewestAsks_68 rfl (lv_at hl 2 rfl) ?_
        refine va_iald hx hb hK hP 1 0 rfl rfl (zB_in b_x0 (by decide) (by decide)) dX2_fewestAsks_69 ?_
        refine lv_topi (fun y69 _ => ?_)
        exact up _ _ _ (W.iret (v := y69) hx hb hr (fun t ht hW => ⟨⟨y69, (), rfl, trivial, ⟨g2_aHU1, by rw [ht]; exact hP, hD⟩⟩, hS.F ht⟩) hS.2.2 dX2_fewestAsks_70)
      · have bx4f_v2_2 : zB v2_2 1 255 := zB_leu (zg c4) bv2_2_k2 b_x0 (by decide)
        have by4f_x0 : zB x0 1 255 := zB_lev (zg c4) bx4f_v2_2 b_x0 (by decide)
        refine lv_iload_n hx hb dX2_fewestAsks_7 rfl (lv_at hl 0 rfl) ?_
        refine lv_iload_n hx hb dX2_fewestAsks_8 rfl (lv_at hl 2 rfl) ?_
        refine lv_iconst (v := (-1)) hx hb dX2_fewestAsks_9 (by decide) ?_
        refine lv_ixor hx hb dX2_fewestAsks_10 ?_
        refine zi_top (a := (-256)) (b := (-2)) (zB_not by4f_x0 (by decide) (by decide)) (fun y10 by10 => ?_)
        refine lv_iand hx hb dX2_fewestAsks_11 ?_
        refine zi_top (a := 0) (b := 255) (zB_andl bx4f_v2_2 (by decide)) (fun y11 by11 => ?_)
        have j58 : ∀ (H : Heap) (locs : List Loc) (ls : Array Slot) (g58_aHU1 : Nat → Int32), va_P D classes [(HU, .inr (2, oX2 FL aHU)), ((aHU 1), .inl (cI, 256, .inl g58_aHU1)), (FL, .inr (0, oX0 PL aFL FL_parting)), (PL, .inr (5, oX5 FO aPL PL_rooms PL_doors PL_things PL_draw PL_drawTold)), ((aFL 3), .inl (cI, 12, .inl FL_near))] H → va_D A [(HU, .inr (2, oX2 FL aHU)), ((aHU 1), .inl (cI, 256, .inl g58_aHU1)), (FL, .inr (0, oX0 PL aFL FL_parting)), (PL, .inr (5, oX5 FO aPL PL_rooms PL_doors PL_things PL_draw PL_drawTold)), ((aFL 3), .inl (cI, 12, .inl FL_near))] → va_S A s.heap H locs → lv_has ls 5 [(2, .int v2_2), (0, .ref HU), (1, .int x0)] → W p l e ({ frames := 3, cells := 0, slots := 0, locals := 70 } : Room) s m ([.ref HU, .int x0] : List Value).toArray below meth c H locs 0 0 Q (F0 m 58 ls []) := by
          intro H locs ls g58_aHU1 hP hD hS hl
          obtain ⟨y58, by58, ry58, ey58⟩ := zi_inc (x := v2_2) (k := 1) (a := 2) (b := 256) bx4f_v2_2 (by decide) (by decide) (by decide) (by decide) (by decide)
          refine lv_iinc (v := y58) (lv' := [(2, .int y58), (0, .ref HU), (1, .int x0)]) hx hb dX2_fewestAsks_58 hl (k := 0) rfl ey58 (by decide) rfl (fun ls hl => ?_)
          refine lv_goto (tgt := 2) hx hb dX2_fewestAsks_61 (by decide) ?_
          exact ih2 H locs ls y58 g58_aHU1 (zB_w by58 (by decide) (by decide)) (zM_us (k := 1) hm2 ry58 (by decide)) hP hD hS (lv_sub hl [0, 1, 2] rfl)
        refine lv_if_ne (tgt := 58) hx hb dX2_fewestAsks_12 (by decide) (fun c12 => ?_) (fun c12 => ?_)
        · have bn12t_y11 : zB y11 1 255 := zB_neL c12 by11 (show zB 0 0 0 from ⟨by decide, by decide⟩) (by decide)
          exact j58 H locs ls g2_aHU1 hP hD hS (lv_sub hl [0, 1, 2] rfl)
        · have be12f_y11 : zB y11 0 0 := zB_eq c12 by11 (show zB 0 0 0 from ⟨by decide, by decide⟩) (by decide) (by decide)
          refine lv_aload_n hx hb dX2_fewestAsks_15 rfl (lv_at hl 1 rfl) ?_
          refine lv_iload_n hx hb dX2_fewestAsks_16 rfl (lv_at hl 0 rfl) ?_
          have hPc := hP.sub (ws' := [(HU, .inr (2, oX2 FL aHU)), (FL, .inr (0, oX0 PL aFL FL_parting)), (PL, .inr (5, oX5 FO aPL PL_rooms PL_doors PL_things PL_draw PL_drawTold)), ((aFL 3), .inl (cI, 12, .inl FL_near)), ((aHU 1), .inl (cI, 256, .inl g2_aHU1))]) [0, 2, 3, 4, 1] rfl
          refine vp_callSi (va_runV (As := [.int v2_2]) (rest := []) ⟨hx, hb, hml, hown, hts⟩ (c_X2_bestDoor l D cI cB cL cZ cG HU v2_2 FL aHU PL aFL FL_parting PL_rooms aPL PL_doors PL_things FO PL_draw PL_drawTold FL_near g2_aHU1 (zB_w bx4f_v2_2 (by decide) (by decide)) b_PL_rooms b_PL_doors b_PL_things) (cwV 1 hts gX2_fewestAsks_X2_bestDoor rfl rfl rfl (by decide +kernel) ⟨Nat.le_of_ble_eq_true rfl, Nat.le_of_ble_eq_true rfl⟩) ⟨xr_blind, va_recv hK hP (ci := 2) (q0 := 0) rfl rfl, fun U hU hW => xr_mk hU hW hPc hK⟩ rfl rfl hl.1 rfl (lv_room (Nat.le_of_ble_eq_true rfl)) dX2_fewestAsks_17 ⟨Nat.le_of_ble_eq_true rfl, Nat.le_of_ble_eq_true rfl⟩).run (fun r17 hr17 => ?_)
          clear hPc
          refine lv_istore_n (lv' := [(3, .int r17), (2, .int v2_2), (0, .ref HU), (1, .int x0)]) hx hb dX2_fewestAsks_20 rfl hl (by decide) rfl (fun ls hl => ?_)
          refine lv_iload_n hx hb dX2_fewestAsks_21 rfl (lv_at hl 1 rfl) ?_
          have hPc := hP.sub (ws' := []) [] rfl
          refine vp_callSi (va_runS (As := [.int v2_2]) (rest := []) ⟨hx, hb, hml, hown, hts⟩ (c_J6_bitCount_0f7a4 l D cI cB cL cZ cG v2_2) (va_cwS 1 hts gX2_fewestAsks_J6_bitCount_0f7a4 rfl rfl rfl (by decide +kernel) ⟨Nat.le_of_ble_eq_true rfl, Nat.le_of_ble_eq_true rfl⟩) ⟨xr_blind, fun U hU hW => xr_mk hU hW hPc hK⟩ rfl rfl hl.1 rfl (lv_room (Nat.le_of_ble_eq_true rfl)) dX2_fewestAsks_22 ⟨Nat.le_of_ble_eq_true rfl, Nat.le_of_ble_eq_true rfl⟩).run (fun r22 hr22 => ?_)
          clear hPc
          refine lv_iconst (v := 1) hx hb dX2_fewestAsks_25 (by decide) ?_
          have j34 : ∀ (H : Heap) (locs : List Loc) (ls : Array Slot) (u34_0 : Int32), zB u34_0 (-1) 0 → va_P D classes [(HU, .inr (2, oX2 FL aHU)), ((aHU 1), .inl (cI, 256, .inl g2_aHU1)), (FL, .inr (0, oX0 PL aFL FL_parting)), (PL, .inr (5, oX5 FO aPL PL_rooms PL_doors PL_things PL_draw PL_drawTold)), ((aFL 3), .inl (cI, 12, .inl FL_near))] H → va_D A [(HU, .inr (2, oX2 FL aHU)), ((aHU 1), .inl (cI, 256, .inl g2_aHU1)), (FL, .inr (0, oX0 PL aFL FL_parting)), (PL, .inr (5, oX5 FO aPL PL_rooms PL_doors PL_things PL_draw PL_drawTold)), ((aFL 3), .inl (cI, 12, .inl FL_near))] → va_S A s.heap H locs → lv_has ls 5 [(3, .int r17), (2, .int v2_2), (0, .ref HU), (1, .int x0)] → W p l e ({ frames := 3, cells := 0, slots := 0, locals := 70 } : Room) s m ([.ref HU, .int x0] : List Value).toArray below meth c H locs 0 0 Q (F0 m 34 ls [.int u34_0]) := by
            intro H locs ls u34_0 bu34_0_k34 hP hD hS hl
            refine lv_istore (lv' := [(4, .int u34_0), (3, .int r17), (2, .int v2_2), (0, .ref HU), (1, .int x0)]) hx hb dX2_fewestAsks_34 hl (by decide) rfl (fun ls hl => ?_)
            refine lv_aload_n hx hb dX2_fewestAsks_36 rfl (lv_at hl 3 rfl) ?_
            refine va_get (D := D) (ci := 2) (v := .ref (aHU 1)) (C := RX2) (T := TX2) (N := 2) hx hb hts iw_X2_fewestAsks_X2 hown hK hP 0 rfl rfl 1 (by decide) (hts (.fieldLink RX2 9 "SoldHouse$Hunter" "asks" "[I") (List.mem_of_getElem? (i := 1) rfl)) (fun _ h9 => h9) rfl dX2_fewestAsks_37 ?_
            refine lv_iload_n hx hb dX2_fewestAsks_40 rfl (lv_at hl 2 rfl) ?_
            refine lv_iload_n hx hb dX2_fewestAsks_41 rfl (lv_at hl 1 rfl) ?_
            refine lv_iconst (v := (-1)) hx hb dX2_fewestAsks_42 (by decide) ?_
            have j57 : ∀ (H : Heap) (locs : List Loc) (ls : Array Slot) (u57_0 : Int32), va_P D classes [(HU, .inr (2, oX2 FL aHU)), ((aHU 1), .inl (cI, 256, .inl g2_aHU1)), (FL, .inr (0, oX0 PL aFL FL_parting)), (PL, .inr (5, oX5 FO aPL PL_rooms PL_doors PL_things PL_draw PL_drawTold)), ((aFL 3), .inl (cI, 12, .inl FL_near))] H → va_D A [(HU, .inr (2, oX2 FL aHU)), ((aHU 1), .inl (cI, 256, .inl g2_aHU1)), (FL, .inr (0, oX0 PL aFL FL_parting)), (PL, .inr (5, oX5 FO aPL PL_rooms PL_doors PL_things PL_draw PL_drawTold)), ((aFL 3), .inl (cI, 12, .inl FL_near))] → va_S A s.heap H locs → lv_has ls 5 [(4, .int u34_0), (3, .int r17), (2, .int v2_2), (0, .ref HU), (1, .int x0)] → W p l e ({ frames := 3, cells := 0, slots := 0, locals := 70 } : Room) s m ([.ref HU, .int x0] : List Value).toArray below meth c H locs 0 0 Q (F0 m 57 ls [.int u57_0, .int v2_2, .ref (aHU 1)]) := by
              intro H locs ls u57_0 hP hD hS hl
              refine zi_iast hx hb hK hP hD hS 1 0 rfl rfl (zB_in bx4f_v2_2 (by decide) (by decide)) dX2_fewestAsks_57 (fun H locs g57 eg57 hP hD hS => ?_)
              replace hP : va_P D classes [(HU, .inr (2, oX2 FL aHU)), ((aHU 1), .inl (cI, 256, .inl g57)), (FL, .inr (0, oX0 PL aFL FL_parting)), (PL, .inr (5, oX5 FO aPL PL_rooms PL_doors PL_things PL_draw PL_drawTold)), ((aFL 3), .inl (cI, 12, .inl FL_near))] H := hP
              replace hD : va_D A [(HU, .inr (2, oX2 FL aHU)), ((aHU 1), .inl (cI, 256, .inl g57)), (FL, .inr (0, oX0 PL aFL FL_parting)), (PL, .inr (5, oX5 FO aPL PL_rooms PL_doors PL_things PL_draw PL_drawTold)), ((aFL 3), .inl (cI, 12, .inl FL_near))] := hD
              clear eg57
              exact j58 H locs ls g57 hP hD hS (lv_sub hl [2, 3, 4] rfl)
            refine lv_icmp_ne (tgt := 51) hx hb dX2_fewestAsks_43 (by decide) (fun c43 => ?_) (fun c43 => ?_)
            · have bn43t_r17 : zB r17 0 11 := zB_neL c43 hr17 (show zB (-1) (-1) (-1) from ⟨by decide, by decide⟩) (by decide)
              refine lv_aload_n hx hb dX2_fewestAsks_51 rfl (lv_at hl 3 rfl) ?_
              refine lv_iload_n hx hb dX2_fewestAsks_52 rfl (lv_at hl 2 rfl) ?_
              refine lv_iload_n hx hb dX2_fewestAsks_53 rfl (lv_at hl 1 rfl) ?_
              have hPc := hP.sub (ws' := [(HU, .inr (2, oX2 FL aHU)), (FL, .inr (0, oX0 PL aFL FL_parting)), ((aFL 3), .inl (cI, 12, .inl FL_near)), ((aHU 1), .inl (cI, 256, .inl g2_aHU1))]) [0, 2, 4, 1] rfl
              refine vp_callSi (va_runV (As := [.int v2_2, .int r17]) (rest := [.int v2_2, .ref (aHU 1)]) ⟨hx, hb, hml, hown, hts⟩ (c_X2_asksBy l D cI cB cL cZ cG HU v2_2 r17 FL aHU PL aFL FL_parting FL_near g2_aHU1 (zB_w bx4f_v2_2 (by decide) (by decide)) bn43t_r17) (cwV 2 hts gX2_fewestAsks_X2_asksBy rfl rfl rfl (by decide +kernel) ⟨Nat.le_of_ble_eq_true rfl, Nat.le_of_ble_eq_true rfl⟩) ⟨xr_blind, va_recv hK hP (ci := 2) (q0 := 0) rfl rfl, fun U hU hW => xr_mk hU hW hPc hK⟩ rfl rfl hl.1 rfl (lv_room (Nat.le_of_ble_eq_true rfl)) dX2_fewestAsks_54 ⟨Nat.le_of_ble_eq_true rfl, Nat.le_of_ble_eq_true rfl⟩).run (fun r54 hr54 => ?_)
              clear hPc
              clear hr54
              exact j57 H locs ls r54 hP hD hS (lv_sub hl [0, 1, 2, 3, 4] rfl)
            · have be43f_r17 : zB r17 (-1) (-1) := zB_eq c43 hr17 (show zB (-1) (-1) (-1) from ⟨by decide, by decide⟩) (by decide) (by decide)
              refine lv_iload hx hb dX2_fewestAsks_46 (lv_at hl 0 rfl) ?_
              refine lv_goto (tgt := 57) hx hb dX2_fewestAsks_48 (by decide) ?_
              exact j57 H locs ls u34_0 hP hD hS (lv_sub hl [0, 1, 2, 3, 4] rfl)
          refine lv_icmp_ne (tgt := 33) hx hb dX2_fewestAsks_26 (by decide) (fun c26 => ?_) (fun c26 => ?_)
          · refine lv_iconst (v := (-1)) hx hb dX2_fewestAsks_33 (by decide) ?_
            exact j34 H locs ls (-1) (zB_w (show zB (-1) (-1) (-1) from ⟨by decide, by decide⟩) (by decide) (by decide)) hP hD hS (lv_sub hl [0, 1, 2, 3] rfl)
          · have be26f_r22 : zB r22 1 1 := zB_eq c26 hr22 (show zB 1 1 1 from ⟨by decide, by decide⟩) (by decide) (by decide)
            refine lv_iconst (v := 0) hx hb dX2_fewestAsks_29 (by decide) ?_
            refine lv_goto (tgt := 34) hx hb dX2_fewestAsks_30 (by decide) ?_
            exact j34 H locs ls 0 (zB_w (show zB 0 0 0 from ⟨by decide, by decide⟩) (by decide) (by decide)) hP hD hS (lv_sub hl [0, 1, 2, 3] rfl)
  refine lv_istore_n (lv' := [(2, .int 1), (0, .ref HU), (1, .int x0)]) hx hb dX2_fewestAsks_1 rfl hl (by decide) rfl (fun ls hl => ?_)
  exact j2 256 H locs ls 1 HU_asks (zB_w (show zB 1 1 1 from ⟨by decide, by decide⟩) (by decide) (by decide)) (zM_ui (show zB 1 1 1 from ⟨by decide, by decide⟩) (by decide)) hP hD hS (lv_sub hl [0, 1, 2] rfl)
set_option maxHeartbeats 4000000 in
set_option maxRecDepth 100000 in
theorem c_X2_firstDoor (l : Launch) (D : va_G) (cI : ClassId) (cB : ClassId) (cL : ClassId) (cZ : ClassId) (cG : ClassId) (HU : Nat) (x0 : Int32) (FL : Nat) (aHU : Nat → Nat) (HU_asks : Nat → Int32) (PL : Nat) (aFL : Nat → Nat) (FL_parting : Int32) (PL_rooms : Int32) (aPL : Nat → Nat) (PL_doors : Int32) (PL_things : Int32) (FO : Nat) (PL_draw : Int32) (PL_drawTold : Int32) (FL_near : Nat → Int32) (sz : Nat) (b_x0 : zB x0 0 255) (b_PL_rooms : zB PL_rooms 0 8) (b_PL_doors : zB PL_doors 0 12) (b_PL_things : zB PL_things 0 6) : Met l yX2_firstDoor wsX2_firstDoor ({ frames := 4, cells := 0, slots := 0, locals := 94 }) (xp D [(cI, .int), (cB, .byte), (cL, .long), (cZ, .boolean), (cG, .array .int)] [(HU, .inr (2, oX2 FL aHU)), ((aHU 1), .inl (cI, 256, .inl HU_asks)), (FL, .inr (0, oX0 PL aFL FL_parting)), (PL, .inr (5, oX5 FO aPL PL_rooms PL_doors PL_things PL_draw PL_drawTold)), ((aFL 3), .inl (cI, 12, .inl FL_near))] sz [] [.ref HU, .int x0]) (va_Qi (fun (r : Int32) (_ : Unit) => zB r (-1) 11) (fun (_ : Unit) (t : State) => ∃ (nHUasks : Nat → Int32), xB D (va_A [(HU, .inr (2, oX2 FL aHU)), ((aHU 1), .inl (cI, 256, .inl HU_asks)), (FL, .inr (0, oX0 PL aFL FL_parting)), (PL, .inr (5, oX5 FO aPL PL_rooms PL_doors PL_things PL_draw PL_drawTold)), ((aFL 3), .inl (cI, 12, .inl FL_near))] sz) [(HU, .inr (2, oX2 FL aHU)), ((aHU 1), .inl (cI, 256, .inl nHUasks)), (FL, .inr (0, oX0 PL aFL FL_parting)), (PL, .inr (5, oX5 FO aPL PL_rooms PL_doors PL_things PL_draw PL_drawTold)), ((aFL 3), .inl (cI, 12, .inl FL_near))] t) (va_A [(HU, .inr (2, oX2 FL aHU)), ((aHU 1), .inl (cI, 256, .inl HU_asks)), (FL, .inr (0, oX0 PL aFL FL_parting)), (PL, .inr (5, oX5 FO aPL PL_rooms PL_doors PL_things PL_draw PL_drawTold)), ((aFL 3), .inl (cI, 12, .inl FL_near))] sz)) 0 0 (va_A [(HU, .inr (2, oX2 FL aHU)), ((aHU 1), .inl (cI, 256, .inl HU_asks)), (FL, .inr (0, oX0 PL aFL FL_parting)), (PL, .inr (5, oX5 FO aPL PL_rooms PL_doors PL_things PL_draw PL_drawTold)), ((aFL 3), .inl (cI, 12, .inl FL_near))] sz) := by
  refine Met.ofW (cc := cX2_firstDoor) (maxL := 2) (ret := (some .int)) (by decide) rfl ?_
  intro p e s m args below meth c s₁ B hml hv
  obtain ⟨rfl, hsz, hP, hK, hD0, hNw⟩ := hv
  have hx := B.exec
  have hb := B.bytes
  have hr := B.returns
  have hts := atoms_spec (ws := wsX2_firstDoor) B.pre
  have hown : s.vm.findClass RX2 = some m.cls := findClass_of_methodNamed B.named
  have hlocks := B.notSynchronized
  clear B
  subst hsz
  have hD := hD0.self (sz := s.heap.size)
  clear hD0 hNw
  generalize hAe : va_A [(HU, .inr (2, oX2 FL aHU)), ((aHU 1), .inl (cI, 256, .inl HU_asks)), (FL, .inr (0, oX0 PL aFL FL_parting)), (PL, .inr (5, oX5 FO aPL PL_rooms PL_doors PL_things PL_draw PL_drawTold)), ((aFL 3), .inl (cI, 12, .inl FL_near))] s.heap.size = A at hD ⊢
  have hA : ∀ q : Nat, s.heap.size ≤ q → A q := fun q h => by rw [← hAe]; exact Or.inr h
  have hS : va_S A s.heap s.heap [] := va_S.rf
  clear hAe
  obtain ⟨H, hH⟩ : ∃ H : Heap, H = s.heap := ⟨_, rfl⟩
  obtain ⟨locs, hlocs⟩ : ∃ L : List Loc, L = [] := ⟨_, rfl⟩
  replace hP : va_P D classes [(HU, .inr (2, oX2 FL aHU)), ((aHU 1), .inl (cI, 256, .inl HU_asks)), (FL, .inr (0, oX0 PL aFL FL_parting)), (PL, .inr (5, oX5 FO aPL PL_rooms PL_doors PL_things PL_draw PL_drawTold)), ((aFL 3), .inl (cI, 12, .inl FL_near))] H := by rw [hH]; exact hP
  replace hS : va_S A s.heap H locs := by rw [hH, hlocs]; exact hS
  rw [← hH, ← hlocs]
  clear hlocs hH
  have hl := lv_entry ([.ref HU, .int x0]) (n := 2) (Nat.le_of_ble_eq_true rfl)
  rw [lg_entry_eq]
  generalize (lg_sl ([.ref HU, .int x0]) ++ List.replicate (2 - (lg_sl ([.ref HU, .int x0])).length) Slot.unset).toArray = ls at hl ⊢
  replace hl : lv_has ls 2 [(0, .ref HU), (1, .int x0)] := hl
  refine lv_aload_n hx hb dX2_firstDoor_0 rfl (lv_at hl 0 rfl) ?_
  refine lv_iload_n hx hb dX2_firstDoor_1 rfl (lv_at hl 1 rfl) ?_
  have hPc := hP.sub (ws' := [(HU, .inr (2, oX2 FL aHU)), ((aHU 1), .inl (cI, 256, .inl HU_asks)), (FL, .inr (0, oX0 PL aFL FL_parting)), (PL, .inr (5, oX5 FO aPL PL_rooms PL_doors PL_things PL_draw PL_drawTold)), ((aFL 3), .inl (cI, 12, .inl FL_near))]) [0, 1, 2, 3, 4] rfl
  have hDc := hD.sub (ws' := [(HU, .inr (2, oX2 FL aHU)), ((aHU 1), .inl (cI, 256, .inl HU_asks)), (FL, .inr (0, oX0 PL aFL FL_parting)), (PL, .inr (5, oX5 FO aPL PL_rooms PL_doors PL_things PL_draw PL_drawTold)), ((aFL 3), .inl (cI, 12, .inl FL_near))]) [0, 1, 2, 3, 4] (by decide) rfl
  have hFc := va_free (wc := [(HU, .inr (2, oX2 FL aHU)), ((aHU 1), .inl (cI, 256, .inl HU_asks)), (FL, .inr (0, oX0 PL aFL FL_parting)), (PL, .inr (5, oX5 FO aPL PL_rooms PL_doors PL_things PL_draw PL_drawTold)), ((aFL 3), .inl (cI, 12, .inl FL_near))]) hD hS hA [0, 1, 2, 3, 4] rfl
  refine va_calli (va_runV (As := [.int x0]) (rest := []) ⟨hx, hb, hml, hown, hts⟩ (c_X2_fewestAsks l D cI cB cL cZ cG HU x0 FL aHU HU_asks PL aFL FL_parting PL_rooms aPL PL_doors PL_things FO PL_draw PL_drawTold FL_near H.size b_x0 b_PL_rooms b_PL_doors b_PL_things) (cwV 1 hts gX2_firstDoor_X2_fewestAsks rfl rfl rfl (by decide +kernel) ⟨Nat.le_of_ble_eq_true rfl, Nat.le_of_ble_eq_true rfl⟩) ⟨xp_blind, va_recv hK hP (ci := 2) (q0 := 0) rfl rfl, fun U hU hW => xp_mk hU hW hPc hK hDc xNw_nil⟩ rfl rfl hl.1 rfl (lv_room (Nat.le_of_ble_eq_true rfl)) dX2_firstDoor_2 ⟨Nat.le_of_ble_eq_true rfl, Nat.le_of_ble_eq_true rfl⟩) hS (fun q _ h => hFc q h) hFc (fun r2 u9 t9 H1 locs ht9 hvm9 hr2 hB9 hz9 hk9 hS => ?_)
  obtain ⟨o2_nHUasks, hP1, hD1⟩ := hB9
  rw [ht9] at hP1
  obtain ⟨hP, hD⟩ := va_join (wr := []) (w1 := [(HU, .inr (2, oX2 FL aHU)), ((aHU 1), .inl (cI, 256, .inl o2_nHUasks)), (FL, .inr (0, oX0 PL aFL FL_parting)), (PL, .inr (5, oX5 FO aPL PL_rooms PL_doors PL_things PL_draw PL_drawTold)), ((aFL 3), .inl (cI, 12, .inl FL_near))]) hP hD [0, 1, 2, 3, 4] [] rfl rfl (by decide) (by decide) hk9 hFc hP1 hD1
  clear hz9 hPc hDc hP1 hD1 hk9 hFc ht9 hvm9 u9 t9
  generalize H1 = H at hP hS ⊢
  replace hP : va_P D classes [(HU, .inr (2, oX2 FL aHU)), ((aHU 1), .inl (cI, 256, .inl o2_nHUasks)), (FL, .inr (0, oX0 PL aFL FL_parting)), (PL, .inr (5, oX5 FO aPL PL_rooms PL_doors PL_things PL_draw PL_drawTold)), ((aFL 3), .inl (cI, 12, .inl FL_near))] H := hP
  replace hD : va_D A [(HU, .inr (2, oX2 FL aHU)), ((aHU 1), .inl (cI, 256, .inl o2_nHUasks)), (FL, .inr (0, oX0 PL aFL FL_parting)), (PL, .inr (5, oX5 FO aPL PL_rooms PL_doors PL_things PL_draw PL_drawTold)), ((aFL 3), .inl (cI, 12, .inl FL_near))] := hD
  clear hr2
  refine lv_pop hx hb dX2_firstDoor_5 rfl ?_
  refine lv_aload_n hx hb dX2_firstDoor_6 rfl (lv_at hl 0 rfl) ?_
  refine lv_iload_n hx hb dX2_firstDoor_7 rfl (lv_at hl 1 rfl) ?_
  have hPc := hP.sub (ws' := [(HU, .inr (2, oX2 FL aHU)), (FL, .inr (0, oX0 PL aFL FL_parting)), (PL, .inr (5, oX5 FO aPL PL_rooms PL_doors PL_things PL_draw PL_drawTold)), ((aFL 3), .inl (cI, 12, .inl FL_near)), ((aHU 1), .inl (cI, 256, .inl o2_nHUasks))]) [0, 2, 3, 4, 1] rfl
  refine vp_callSi (va_runV (As := [.int x0]) (rest := []) ⟨hx, hb, hml, hown, hts⟩ (c_X2_bestDoor l D cI cB cL cZ cG HU x0 FL aHU PL aFL FL_parting PL_rooms aPL PL_doors PL_things FO PL_draw PL_drawTold FL_near o2_nHUasks b_x0 b_PL_rooms b_PL_doors b_PL_things) (cwV 1 hts gX2_firstDoor_X2_bestDoor rfl rfl rfl (by decide +kernel) ⟨Nat.le_of_ble_eq_true rfl, Nat.le_of_ble_eq_true rfl⟩) ⟨xr_blind, va_recv hK hP (ci := 2) (q0 := 0) rfl rfl, fun U hU hW => xr_mk hU hW hPc hK⟩ rfl rfl hl.1 rfl (lv_room (Nat.le_of_ble_eq_true rfl)) dX2_firstDoor_8 ⟨Nat.le_of_ble_eq_true rfl, Nat.le_of_ble_eq_true rfl⟩).run (fun r8 hr8 => ?_)
  clear hPc
  exact W.iret (v := r8) hx hb hr (fun t ht hW => ⟨⟨r8, (), rfl, hr8, ⟨o2_nHUasks, by rw [ht]; exact hP, hD⟩⟩, hS.F ht⟩) hS.2.2 dX2_firstDoor_11
set_option maxHeartbeats 4000000 in
set_option maxRecDepth 100000 in
theorem c_X3_thingsWith (l : Launch) (D : va_G) (cI : ClassId) (cB : ClassId) (cL : ClassId) (cZ : ClassId) (cG : ClassId) (ME : Nat) (x0 : Int32) (x1 : Int32) (FL : Nat) (aME : Nat → Nat) (ME_oldest : Int32) (ME_done : Int32) (ME_undone : Int32) (PL : Nat) (aFL : Nat → Nat) (FL_parting : Int32) (PL_rooms : Int32) (aPL : Nat → Nat) (PL_doors : Int32) (PL_things : Int32) (FO : Nat) (PL_draw : Int32) (PL_drawTold : Int32) (ME_now : Nat → Int32) (b_x0 : zB x0 0 6) (b_ME_oldest : zB ME_oldest 0 40) (b_ME_done : zB ME_done 0 40) (b_ME_undone : zB ME_undone 0 40) (b_PL_rooms : zB PL_rooms 0 8) (b_PL_doors : zB PL_doors 0 12) (b_PL_things : zB PL_things 0 6) (s_ME_now_0 : zA ME_now 0 12 0 7) : Met l yX3_thingsWith wsX3_thingsWith ({ frames := 0, cells := 0, slots := 0, locals := 0 }) (xr D [(cI, .int), (cB, .byte), (cL, .long), (cZ, .boolean), (cG, .array .int)] [(ME, .inr (3, oX3 FL aME ME_oldest ME_done ME_undone)), (FL, .inr (0, oX0 PL aFL FL_parting)), (PL, .inr (5, oX5 FO aPL PL_rooms PL_doors PL_things PL_draw PL_drawTold)), ((aME 1), .inl (cI, 32, .inl ME_now))] [.ref ME, .int x0, .int x1]) (vp_Si (fun r => zB r 0 63)) 0 0 (fun _ => False) := by
  refine Met.ofW (cc := cX3_thingsWith) (maxL := 5) (ret := (some .int)) (by decide) rfl ?_
  intro p e s m args below meth c s₁ B hml hv
  obtain ⟨rfl, hP, hK⟩ := hv
  have hx := B.exec
  have hb := B.bytes
  have hr := B.returns
  have hts := atoms_spec (ws := wsX3_thingsWith) B.pre
  have hown : s.vm.findClass RX3 = some m.cls := findClass_of_methodNamed B.named
  have hlocks := B.notSynchronized
  clear B
  have hl := lv_entry ([.ref ME, .int x0, .int x1]) (n := 5) (Nat.le_of_ble_eq_true rfl)
  rw [lg_entry_eq]
  generalize (lg_sl ([.ref ME, .int x0, .int x1]) ++ List.replicate (5 - (lg_sl ([.ref ME, .int x0, .int x1])).length) Slot.unset).toArray = ls at hl ⊢
  replace hl : lv_has ls 5 [(0, .ref ME), (1, .int x0), (2, .int x1)] := hl
  refine zz_abs (R := ({ frames := 0, cells := 0, slots := 0, locals := 0 } : Room)) (fun Q up => ?_)
  refine lv_iconst (v := 0) hx hb dX3_thingsWith_0 (by decide) ?_
  refine lv_istore_n (lv' := [(3, .int 0), (0, .ref ME), (1, .int x0), (2, .int x1)]) hx hb dX3_thingsWith_1 rfl hl (by decide) rfl (fun ls hl => ?_)
  refine lv_iconst (v := 0) hx hb dX3_thingsWith_2 (by decide) ?_
  have j5 : ∀ (n5 : Nat) (ls : Array Slot) (v5_4 : Int32) (v5_3 : Int32), zB v5_4 0 6 → zB v5_3 0 63 → zA ME_now 0 12 0 7 → (6 + 1 - v5_4.toInt) ≤ (n5 : Int) → lv_has ls 5 [(4, .int v5_4), (3, .int v5_3), (0, .ref ME), (1, .int x0), (2, .int x1)] → W p l e ({ frames := 0, cells := 0, slots := 0, locals := 0 } : Room) s m ([.ref ME, .int x0, .int x1] : List Value).toArray below meth c s.heap [] 0 0 Q (F0 m 5 ls []) := by
    intro n5
    induction n5 with
    | zero => intro ls v5_4 v5_3 bv5_4_k5 bv5_3_k5 sME_now_0_k5 hm5 hl; exact zM_u0 bv5_4_k5 hm5
    | succ n5 ih5 =>
      intro ls v5_4 v5_3 bv5_4_k5 bv5_3_k5 sME_now_0_k5 hm5 hl
      refine lv_iload hx hb dX3_thingsWith_5 (lv_at hl 0 rfl) ?_
      refine lv_aload_n hx hb dX3_thingsWith_7 rfl (lv_at hl 2 rfl) ?_
      refine va_get (D := D) (ci := 3) (v := .ref FL) (C := RX3) (T := TX3) (N := 9) hx hb hts iw_X3_thingsWith_X3 hown hK hP 0 rfl rfl 0 (by decide) (hts (.fieldLink RX3 30 "SoldHouse$Memory" "floor" "LSoldHouse$Floor;") (List.mem_of_getElem? (i := 1) rfl)) (fun _ h9 => h9) rfl dX3_thingsWith_8 ?_
      refine va_get (D := D) (ci := 0) (v := .ref PL) (C := RX0) (T := TX0) (N := 5) hx hb hts iw_X3_thingsWith_X0 hown hK hP 1 rfl rfl 0 (by decide) (hts (.fieldLink RX3 34 "SoldHouse$Floor" "plan" "LSoldHouse$Plan;") (List.mem_of_getElem? (i := 2) rfl)) (fun _ h9 => h9) rfl dX3_thingsWith_11 ?_
      refine va_get (D := D) (ci := 5) (v := .int PL_things) (C := RX5) (T := TX5) (N := 16) hx hb hts iw_X3_thingsWith_X5 hown hK hP 2 rfl rfl 6 (by decide) (hts (.fieldLink RX3 40 "SoldHouse$Plan" "things" "I") (List.mem_of_getElem? (i := 3) rfl)) (fun _ h9 => h9) rfl dX3_thingsWith_14 ?_
      refine lv_icmp_ge (tgt := 46) hx hb dX3_thingsWith_17 (by decide) (fun c17 => ?_) (fun c17 => ?_)
      · refine lv_iload_n hx hb dX3_thingsWith_46 rfl (lv_at hl 1 rfl) ?_
        exact up _ _ _ (W.iret (v := v5_3) hx hb hr (fun t ht hW => ⟨v5_3, rfl, bv5_3_k5, ht⟩) (fun q hq => by cases hq) dX3_thingsWith_47)
      · have bx17f_v5_4 : zB v5_4 0 5 := zB_ltu (zf c17) bv5_4_k5 b_PL_things (by decide)
        have by17f_PL_things : zB PL_things 1 6 := zB_ltv (zf c17) bx17f_v5_4 b_PL_things (by decide)
        refine lv_aload_n hx hb dX3_thingsWith_20 rfl (lv_at hl 2 rfl) ?_
        refine va_get (D := D) (ci := 3) (v := .ref (aME 1)) (C := RX3) (T := TX3) (N := 9) hx hb hts iw_X3_thingsWith_X3 hown hK hP 0 rfl rfl 1 (by decide) (hts (.fieldLink RX3 11 "SoldHouse$Memory" "now" "[I") (List.mem_of_getElem? (i := 4) rfl)) (fun _ h9 => h9) rfl dX3_thingsWith_21 ?_
        refine lv_iload_n hx hb dX3_thingsWith_24 rfl (lv_at hl 3 rfl) ?_
        refine lv_iload hx hb dX3_thingsWith_25 (lv_at hl 0 rfl) ?_
        refine lv_iadd hx hb dX3_thingsWith_27 ?_
        refine zi_top (a := 0) (b := 11) (zB_add b_x0 bx17f_v5_4 (by decide) (by decide) (by decide) (by decide)) (fun y27 by27 => ?_)
        refine va_iald hx hb hK hP 3 0 rfl rfl (zB_in by27 (by decide) (by decide)) dX3_thingsWith_28 ?_
        refine zi_top (a := 0) (b := 7) (zA_at sME_now_0_k5 by27 (by decide) (by decide)) (fun y28 by28 => ?_)
        refine lv_iload_n hx hb dX3_thingsWith_29 rfl (lv_at hl 4 rfl) ?_
        have j40 : ∀ (ls : Array Slot) (v40_3 : Int32), zB v40_3 0 63 → zA ME_now 0 12 0 7 → lv_has ls 5 [(4, .int v5_4), (3, .int v40_3), (0, .ref ME), (1, .int x0), (2, .int x1)] → W p l e ({ frames := 0, cells := 0, slots := 0, locals := 0 } : Room) s m ([.ref ME, .int x0, .int x1] : List Value).toArray below meth c s.heap [] 0 0 Q (F0 m 40 ls []) := by
          intro ls v40_3 bv40_3_k40 sME_now_0_k40 hl
          obtain ⟨y40, by40, ry40, ey40⟩ := zi_inc (x := v5_4) (k := 1) (a := 1) (b := 6) bx17f_v5_4 (by decide) (by decide) (by decide) (by decide) (by decide)
          refine lv_iinc (v := y40) (lv' := [(4, .int y40), (3, .int v40_3), (0, .ref ME), (1, .int x0), (2, .int x1)]) hx hb dX3_thingsWith_40 hl (k := 0) rfl ey40 (by decide) rfl (fun ls hl => ?_)
          refine lv_goto (tgt := 5) hx hb dX3_thingsWith_43 (by decide) ?_
          exact ih5 ls y40 v40_3 (zB_w by40 (by decide) (by decide)) bv40_3_k40 sME_now_0_k40 (zM_us (k := 1) hm5 ry40 (by decide)) (lv_sub hl [0, 1, 2, 3, 4] rfl)
        refine lv_icmp_ne (tgt := 40) hx hb dX3_thingsWith_30 (by decide) (fun c30 => ?_) (fun c30 => ?_)
        · exact j40 ls v5_3 bv5_3_k5 sME_now_0_k5 (lv_sub hl [0, 1, 2, 3, 4] rfl)
        · have be30f_x1 : zB x1 0 7 := zB_eq (Eq.symm c30) (zB_top x1) by28 (by decide) (by decide)
          refine lv_iload_n hx hb dX3_thingsWith_33 rfl (lv_at hl 1 rfl) ?_
          refine lv_iconst (v := 1) hx hb dX3_thingsWith_34 (by decide) ?_
          refine lv_iload hx hb dX3_thingsWith_35 (lv_at hl 0 rfl) ?_
          refine lv_ishl hx hb dX3_thingsWith_37 ?_
          refine zi_top (a := 1) (b := 32) (zB_shl1 bx17f_v5_4 (by decide) (by decide) (by decide) (by decide)) (fun y37 by37 => ?_)
          refine lv_ior hx hb dX3_thingsWith_38 ?_
          refine zi_top (a := 1) (b := 63) (zB_or 6 bv5_3_k5 by37 (by decide) (by decide) (by decide) (by decide) (by decide) (by decide) (by decide)) (fun y38 by38 => ?_)
          refine lv_istore_n (lv' := [(3, .int y38), (4, .int v5_4), (0, .ref ME), (1, .int x0), (2, .int x1)]) hx hb dX3_thingsWith_39 rfl hl (by decide) rfl (fun ls hl => ?_)
          exact j40 ls y38 (zB_w by38 (by decide) (by decide)) sME_now_0_k5 (lv_sub hl [1, 0, 2, 3, 4] rfl)
  refine lv_istore (lv' := [(4, .int 0), (3, .int 0), (0, .ref ME), (1, .int x0), (2, .int x1)]) hx hb dX3_thingsWith_3 hl (by decide) rfl (fun ls hl => ?_)
  exact j5 7 ls 0 0 (zB_w (show zB 0 0 0 from ⟨by decide, by decide⟩) (by decide) (by decide)) (zB_w (show zB 0 0 0 from ⟨by decide, by decide⟩) (by decide) (by decide)) s_ME_now_0 (zM_ui (show zB 0 0 0 from ⟨by decide, by decide⟩) (by decide)) (lv_sub hl [0, 1, 2, 3, 4] rfl)
set_option maxHeartbeats 4000000 in
set_option maxRecDepth 100000 in
theorem c_X3_isRight (l : Launch) (D : va_G) (cI : ClassId) (cB : ClassId) (cL : ClassId) (cZ : ClassId) (cG : ClassId) (ME : Nat) (row : Nat) (row_f : Nat → Int32) (x1 : Int32) (b_x1 : zB x1 0 5) (s_row_f_0 : zA row_f 0 12 0 7) : Met l yX3_isRight wsX3_isRight ({ frames := 0, cells := 0, slots := 0, locals := 0 }) (xr D [(cI, .int), (cB, .byte), (cL, .long), (cZ, .boolean), (cG, .array .int)] [(row, .inl (cI, 32, .inl row_f))] [.ref ME, .ref row, .int x1]) (vp_Si (fun r => zB r 0 1)) 0 0 (fun _ => False) := by
  refine Met.ofW (cc := cX3_isRight) (maxL := 3) (ret := (some .boolean)) (by decide) rfl ?_
  intro p e s m args below meth c s₁ B hml hv
  obtain ⟨rfl, hP, hK⟩ := hv
  have hx := B.exec
  have hb := B.bytes
  have hr := B.returns
  have hts := atoms_spec (ws := wsX3_isRight) B.pre
  have hown : s.vm.findClass RX3 = some m.cls := findClass_of_methodNamed B.named
  have hlocks := B.notSynchronized
  clear B
  have hl := lv_entry ([.ref ME, .ref row, .int x1]) (n := 3) (Nat.le_of_ble_eq_true rfl)
  rw [lg_entry_eq]
  generalize (lg_sl ([.ref ME, .ref row, .int x1]) ++ List.replicate (3 - (lg_sl ([.ref ME, .ref row, .int x1])).length) Slot.unset).toArray = ls at hl ⊢
  replace hl : lv_has ls 3 [(0, .ref ME), (1, .ref row), (2, .int x1)] := hl
  refine lv_aload_n hx hb dX3_isRight_0 rfl (lv_at hl 1 rfl) ?_
  refine lv_iconst (v := 0) hx hb dX3_isRight_1 (by decide) ?_
  refine lv_iload_n hx hb dX3_isRight_2 rfl (lv_at hl 2 rfl) ?_
  refine lv_iadd hx hb dX3_isRight_3 ?_
  refine zi_top (a := 0) (b := 5) (zB_add (show zB 0 0 0 from ⟨by decide, by decide⟩) b_x1 (by decide) (by decide) (by decide) (by decide)) (fun y3 by3 => ?_)
  refine va_iald hx hb hK hP 0 0 rfl rfl (zB_in by3 (by decide) (by decide)) dX3_isRight_4 ?_
  refine zi_top (a := 0) (b := 7) (zA_at s_row_f_0 by3 (by decide) (by decide)) (fun y4 by4 => ?_)
  refine lv_aload_n hx hb dX3_isRight_5 rfl (lv_at hl 1 rfl) ?_
  refine lv_bipush (v := 6) hx hb dX3_isRight_6 (by decide) ?_
  refine lv_iload_n hx hb dX3_isRight_8 rfl (lv_at hl 2 rfl) ?_
  refine lv_iadd hx hb dX3_isRight_9 ?_
  refine zi_top (a := 6) (b := 11) (zB_add (show zB 6 6 6 from ⟨by decide, by decide⟩) b_x1 (by decide) (by decide) (by decide) (by decide)) (fun y9 by9 => ?_)
  refine va_iald hx hb hK hP 0 0 rfl rfl (zB_in by9 (by decide) (by decide)) dX3_isRight_10 ?_
  refine zi_top (a := 0) (b := 7) (zA_at s_row_f_0 by9 (by decide) (by decide)) (fun y10 by10 => ?_)
  refine lv_icmp_ne (tgt := 18) hx hb dX3_isRight_11 (by decide) (fun c11 => ?_) (fun c11 => ?_)
  · refine lv_iconst (v := 0) hx hb dX3_isRight_18 (by decide) ?_
    exact W.zret (v := 0) (ty := .boolean) hx hb hr (by decide) (fun t ht hW => ⟨0, rfl, (zB_w (show zB 0 0 0 from ⟨by decide, by decide⟩) (by decide) (by decide)), ht⟩) (fun q hq => by cases hq) dX3_isRight_19
  · refine lv_iconst (v := 1) hx hb dX3_isRight_14 (by decide) ?_
    refine lv_goto (tgt := 19) hx hb dX3_isRight_15 (by decide) ?_
    exact W.zret (v := 1) (ty := .boolean) hx hb hr (by decide) (fun t ht hW => ⟨1, rfl, (zB_w (show zB 1 1 1 from ⟨by decide, by decide⟩) (by decide) (by decide)), ht⟩) (fun q hq => by cases hq) dX3_isRight_19
set_option maxHeartbeats 4000000 in
set_option maxRecDepth 100000 in
theorem c_X3_rightThings (l : Launch) (D : va_G) (cI : ClassId) (cB : ClassId) (cL : ClassId) (cZ : ClassId) (cG : ClassId) (ME : Nat) (row : Nat) (row_f : Nat → Int32) (FL : Nat) (aME : Nat → Nat) (ME_oldest : Int32) (ME_done : Int32) (ME_undone : Int32) (PL : Nat) (aFL : Nat → Nat) (FL_parting : Int32) (PL_rooms : Int32) (aPL : Nat → Nat) (PL_doors : Int32) (PL_things : Int32) (FO : Nat) (PL_draw : Int32) (PL_drawTold : Int32) (b_ME_oldest : zB ME_oldest 0 40) (b_ME_done : zB ME_done 0 40) (b_ME_undone : zB ME_undone 0 40) (b_PL_rooms : zB PL_rooms 0 8) (b_PL_doors : zB PL_doors 0 12) (b_PL_things : zB PL_things 0 6) (s_row_f_0 : zA row_f 0 12 0 7) : Met l yX3_rightThings wsX3_rightThings ({ frames := 1, cells := 0, slots := 0, locals := 22 }) (xr D [(cI, .int), (cB, .byte), (cL, .long), (cZ, .boolean), (cG, .array .int)] [(row, .inl (cI, 32, .inl row_f)), (ME, .inr (3, oX3 FL aME ME_oldest ME_done ME_undone)), (FL, .inr (0, oX0 PL aFL FL_parting)), (PL, .inr (5, oX5 FO aPL PL_rooms PL_doors PL_things PL_draw PL_drawTold))] [.ref ME, .ref row]) (vp_Si (fun r => zB r 0 63)) 0 0 (fun _ => False) := by
  refine Met.ofW (cc := cX3_rightThings) (maxL := 4) (ret := (some .int)) (by decide) rfl ?_
  intro p e s m args below meth c s₁ B hml hv
  obtain ⟨rfl, hP, hK⟩ := hv
  have hx := B.exec
  have hb := B.bytes
  have hr := B.returns
  have hts := atoms_spec (ws := wsX3_rightThings) B.pre
  have hown : s.vm.findClass RX3 = some m.cls := findClass_of_methodNamed B.named
  have hlocks := B.notSynchronized
  clear B
  have hl := lv_entry ([.ref ME, .ref row]) (n := 4) (Nat.le_of_ble_eq_true rfl)
  rw [lg_entry_eq]
  generalize (lg_sl ([.ref ME, .ref row]) ++ List.replicate (4 - (lg_sl ([.ref ME, .ref row])).length) Slot.unset).toArray = ls at hl ⊢
  replace hl : lv_has ls 4 [(0, .ref ME), (1, .ref row)] := hl
  refine zz_abs (R := ({ frames := 1, cells := 0, slots := 0, locals := 22 } : Room)) (fun Q up => ?_)
  refine lv_iconst (v := 0) hx hb dX3_rightThings_0 (by decide) ?_
  refine lv_istore_n (lv' := [(2, .int 0), (0, .ref ME), (1, .ref row)]) hx hb dX3_rightThings_1 rfl hl (by decide) rfl (fun ls hl => ?_)
  refine lv_iconst (v := 0) hx hb dX3_rightThings_2 (by decide) ?_
  have j4 : ∀ (n4 : Nat) (ls : Array Slot) (v4_3 : Int32) (v4_2 : Int32), zB v4_3 0 6 → zB v4_2 0 63 → zA row_f 0 12 0 7 → (6 + 1 - v4_3.toInt) ≤ (n4 : Int) → lv_has ls 4 [(3, .int v4_3), (2, .int v4_2), (0, .ref ME), (1, .ref row)] → W p l e ({ frames := 1, cells := 0, slots := 0, locals := 22 } : Room) s m ([.ref ME, .ref row] : List Value).toArray below meth c s.heap [] 0 0 Q (F0 m 4 ls []) := by
    intro n4
    induction n4 with
    | zero => intro ls v4_3 v4_2 bv4_3_k4 bv4_2_k4 srow_f_0_k4 hm4 hl; exact zM_u0 bv4_3_k4 hm4
    | succ n4 ih4 =>
      intro ls v4_3 v4_2 bv4_3_k4 bv4_2_k4 srow_f_0_k4 hm4 hl
      refine lv_iload_n hx hb dX3_rightThings_4 rfl (lv_at hl 0 rfl) ?_
      refine lv_aload_n hx hb dX3_rightThings_5 rfl (lv_at hl 2 rfl) ?_
      refine va_get (D := D) (ci := 3) (v := .ref FL) (C := RX3) (T := TX3) (N := 9) hx hb hts iw_X3_rightThings_X3 hown hK hP 1 rfl rfl 0 (by decide) (hts (.fieldLink RX3 30 "SoldHouse$Memory" "floor" "LSoldHouse$Floor;") (List.mem_of_getElem? (i := 1) rfl)) (fun _ h9 => h9) rfl dX3_rightThings_6 ?_
      refine va_get (D := D) (ci := 0) (v := .ref PL) (C := RX0) (T := TX0) (N := 5) hx hb hts iw_X3_rightThings_X0 hown hK hP 2 rfl rfl 0 (by decide) (hts (.fieldLink RX3 34 "SoldHouse$Floor" "plan" "LSoldHouse$Plan;") (List.mem_of_getElem? (i := 2) rfl)) (fun _ h9 => h9) rfl dX3_rightThings_9 ?_
      refine va_get (D := D) (ci := 5) (v := .int PL_things) (C := RX5) (T := TX5) (N := 16) hx hb hts iw_X3_rightThings_X5 hown hK hP 3 rfl rfl 6 (by decide) (hts (.fieldLink RX3 40 "SoldHouse$Plan" "things" "I") (List.mem_of_getElem? (i := 3) rfl)) (fun _ h9 => h9) rfl dX3_rightThings_12 ?_
      refine lv_icmp_ge (tgt := 39) hx hb dX3_rightThings_15 (by decide) (fun c15 => ?_) (fun c15 => ?_)
      · refine lv_iload_n hx hb dX3_rightThings_39 rfl (lv_at hl 1 rfl) ?_
        exact up _ _ _ (W.iret (v := v4_2) hx hb hr (fun t ht hW => ⟨v4_2, rfl, bv4_2_k4, ht⟩) (fun q hq => by cases hq) dX3_rightThings_40)
      · have bx15f_v4_3 : zB v4_3 0 5 := zB_ltu (zf c15) bv4_3_k4 b_PL_things (by decide)
        have by15f_PL_things : zB PL_things 1 6 := zB_ltv (zf c15) bx15f_v4_3 b_PL_things (by decide)
        refine lv_aload_n hx hb dX3_rightThings_18 rfl (lv_at hl 2 rfl) ?_
        refine lv_aload_n hx hb dX3_rightThings_19 rfl (lv_at hl 3 rfl) ?_
        refine lv_iload_n hx hb dX3_rightThings_20 rfl (lv_at hl 0 rfl) ?_
        have hPc := hP.sub (ws' := [(row, .inl (cI, 32, .inl row_f))]) [0] rfl
        refine vp_callSi (va_runV (As := [.ref row, .int v4_3]) (rest := []) ⟨hx, hb, hml, hown, hts⟩ (c_X3_isRight l D cI cB cL cZ cG ME row row_f v4_3 bx15f_v4_3 srow_f_0_k4) (cwV 2 hts gX3_rightThings_X3_isRight rfl rfl rfl (by decide +kernel) ⟨Nat.le_of_ble_eq_true rfl, Nat.le_of_ble_eq_true rfl⟩) ⟨xr_blind, va_recv hK hP (ci := 3) (q0 := 1) rfl rfl, fun U hU hW => xr_mk hU hW hPc hK⟩ rfl rfl hl.1 rfl (lv_room (Nat.le_of_ble_eq_true rfl)) dX3_rightThings_21 ⟨Nat.le_of_ble_eq_true rfl, Nat.le_of_ble_eq_true rfl⟩).run (fun r21 hr21 => ?_)
        clear hPc
        have j33 : ∀ (ls : Array Slot) (v33_2 : Int32), zB v33_2 0 63 → zA row_f 0 12 0 7 → lv_has ls 4 [(3, .int v4_3), (2, .int v33_2), (0, .ref ME), (1, .ref row)] → W p l e ({ frames := 1, cells := 0, slots := 0, locals := 22 } : Room) s m ([.ref ME, .ref row] : List Value).toArray below meth c s.heap [] 0 0 Q (F0 m 33 ls []) := by
          intro ls v33_2 bv33_2_k33 srow_f_0_k33 hl
          obtain ⟨y33, by33, ry33, ey33⟩ := zi_inc (x := v4_3) (k := 1) (a := 1) (b := 6) bx15f_v4_3 (by decide) (by decide) (by decide) (by decide) (by decide)
          refine lv_iinc (v := y33) (lv' := [(3, .int y33), (2, .int v33_2), (0, .ref ME), (1, .ref row)]) hx hb dX3_rightThings_33 hl (k := 0) rfl ey33 (by decide) rfl (fun ls hl => ?_)
          refine lv_goto (tgt := 4) hx hb dX3_rightThings_36 (by decide) ?_
          exact ih4 ls y33 v33_2 (zB_w by33 (by decide) (by decide)) bv33_2_k33 srow_f_0_k33 (zM_us (k := 1) hm4 ry33 (by decide)) (lv_sub hl [0, 1, 2, 3] rfl)
        refine lv_if_eq (tgt := 33) hx hb dX3_rightThings_24 (by decide) (fun c24 => ?_) (fun c24 => ?_)
        · have be24t_r21 : zB r21 0 0 := zB_eq c24 hr21 (show zB 0 0 0 from ⟨by decide, by decide⟩) (by decide) (by decide)
          exact j33 ls v4_2 bv4_2_k4 srow_f_0_k4 (lv_sub hl [0, 1, 2, 3] rfl)
        · have bn24f_r21 : zB r21 1 1 := zB_neL c24 hr21 (show zB 0 0 0 from ⟨by decide, by decide⟩) (by decide)
          refine lv_iload_n hx hb dX3_rightThings_27 rfl (lv_at hl 1 rfl) ?_
          refine lv_iconst (v := 1) hx hb dX3_rightThings_28 (by decide) ?_
          refine lv_iload_n hx hb dX3_rightThings_29 rfl (lv_at hl 0 rfl) ?_
          refine lv_ishl hx hb dX3_rightThings_30 ?_
          refine zi_top (a := 1) (b := 32) (zB_shl1 bx15f_v4_3 (by decide) (by decide) (by decide) (by decide)) (fun y30 by30 => ?_)
          refine lv_ior hx hb dX3_rightThings_31 ?_
          refine zi_top (a := 1) (b := 63) (zB_or 6 bv4_2_k4 by30 (by decide) (by decide) (by decide) (by decide) (by decide) (by decide) (by decide)) (fun y31 by31 => ?_)
          refine lv_istore_n (lv' := [(2, .int y31), (3, .int v4_3), (0, .ref ME), (1, .ref row)]) hx hb dX3_rightThings_32 rfl hl (by decide) rfl (fun ls hl => ?_)
          exact j33 ls y31 (zB_w by31 (by decide) (by decide)) srow_f_0_k4 (lv_sub hl [1, 0, 2, 3] rfl)
  refine lv_istore_n (lv' := [(3, .int 0), (2, .int 0), (0, .ref ME), (1, .ref row)]) hx hb dX3_rightThings_3 rfl hl (by decide) rfl (fun ls hl => ?_)
  exact j4 7 ls 0 0 (zB_w (show zB 0 0 0 from ⟨by decide, by decide⟩) (by decide) (by decide)) (zB_w (show zB 0 0 0 from ⟨by decide, by decide⟩) (by decide) (by decide)) s_row_f_0 (zM_ui (show zB 0 0 0 from ⟨by decide, by decide⟩) (by decide)) (lv_sub hl [0, 1, 2, 3] rfl)
