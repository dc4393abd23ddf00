set_option maxHeartbeats 4000000 in
set_option maxRecDepth 100000 in
theorem c_X3_farOff (l : Launch) (D : va_G) (cI : ClassId) (cB : ClassId) (cL : ClassId) (cZ : ClassId) (cG : ClassId) (ME : Nat) (row : Nat) (row_f : Nat → Int32) (x1 : Int32) (FL : Nat) (aME : Nat → Nat) (ME_oldest : Int32) (ME_done : Int32) (ME_undone : Int32) (PL : Nat) (aFL : Nat → Nat) (FL_parting : Int32) (FL_far : Nat → Int32) (b_x1 : zB x1 0 5) (b_ME_oldest : zB ME_oldest 0 40) (b_ME_done : zB ME_done 0 40) (b_ME_undone : zB ME_undone 0 40) (s_row_f_0 : zA row_f 0 12 0 7) (s_FL_far_0 : zA FL_far 0 64 (-1) 7) : Met l yX3_farOff wsX3_farOff ({ frames := 1, cells := 0, slots := 0, locals := 22 }) (xr D [(cI, .int), (cB, .byte), (cL, .long), (cZ, .boolean), (cG, .array .int)] [(row, .inl (cI, 32, .inl row_f)), (ME, .inr (3, oX3 FL aME ME_oldest ME_done ME_undone)), (FL, .inr (0, oX0 PL aFL FL_parting)), ((aFL 2), .inl (cI, 64, .inl FL_far))] [.ref ME, .ref row, .int x1]) (vp_Si (fun r => zB r 0 9)) 0 0 (fun _ => False) := by
  refine Met.ofW (cc := cX3_farOff) (maxL := 4) (ret := (some .int)) (by decide) rfl ?_
  intro p e s m args below meth c s₁ B hml hv
  obtain ⟨rfl, hP, hK⟩ := hv
  have hx := B.exec
  have hb := B.bytes
  have hr := B.returns
  have hts := atoms_spec (ws := wsX3_farOff) B.pre
  have hown : s.vm.findClass RX3 = some m.cls := findClass_of_methodNamed B.named
  have hlocks := B.notSynchronized
  clear B
  have hl := lv_entry ([.ref ME, .ref row, .int x1]) (n := 4) (Nat.le_of_ble_eq_true rfl)
  rw [lg_entry_eq]
  generalize (lg_sl ([.ref ME, .ref row, .int x1]) ++ List.replicate (4 - (lg_sl ([.ref ME, .ref row, .int x1])).length) Slot.unset).toArray = ls at hl ⊢
  replace hl : lv_has ls 4 [(0, .ref ME), (1, .ref row), (2, .int x1)] := hl
  refine lv_aload_n hx hb dX3_farOff_0 rfl (lv_at hl 0 rfl) ?_
  refine va_get (D := D) (ci := 3) (v := .ref FL) (C := RX3) (T := TX3) (N := 9) hx hb hts iw_X3_farOff_X3 hown hK hP 1 rfl rfl 0 (by decide) (hts (.fieldLink RX3 30 "SoldHouse$Memory" "floor" "LSoldHouse$Floor;") (List.mem_of_getElem? (i := 1) rfl)) (fun _ h9 => h9) rfl dX3_farOff_1 ?_
  refine lv_aload_n hx hb dX3_farOff_4 rfl (lv_at hl 1 rfl) ?_
  refine lv_iconst (v := 0) hx hb dX3_farOff_5 (by decide) ?_
  refine lv_iload_n hx hb dX3_farOff_6 rfl (lv_at hl 2 rfl) ?_
  refine lv_iadd hx hb dX3_farOff_7 ?_
  refine zi_top (a := 0) (b := 5) (zB_add (show zB 0 0 0 from ⟨by decide, by decide⟩) b_x1 (by decide) (by decide) (by decide) (by decide)) (fun y7 by7 => ?_)
  refine va_iald hx hb hK hP 0 0 rfl rfl (zB_in by7 (by decide) (by decide)) dX3_farOff_8 ?_
  refine zi_top (a := 0) (b := 7) (zA_at s_row_f_0 by7 (by decide) (by decide)) (fun y8 by8 => ?_)
  refine lv_aload_n hx hb dX3_farOff_9 rfl (lv_at hl 1 rfl) ?_
  refine lv_bipush (v := 6) hx hb dX3_farOff_10 (by decide) ?_
  refine lv_iload_n hx hb dX3_farOff_12 rfl (lv_at hl 2 rfl) ?_
  refine lv_iadd hx hb dX3_farOff_13 ?_
  refine zi_top (a := 6) (b := 11) (zB_add (show zB 6 6 6 from ⟨by decide, by decide⟩) b_x1 (by decide) (by decide) (by decide) (by decide)) (fun y13 by13 => ?_)
  refine va_iald hx hb hK hP 0 0 rfl rfl (zB_in by13 (by decide) (by decide)) dX3_farOff_14 ?_
  refine zi_top (a := 0) (b := 7) (zA_at s_row_f_0 by13 (by decide) (by decide)) (fun y14 by14 => ?_)
  have hPc := hP.sub (ws' := [(FL, .inr (0, oX0 PL aFL FL_parting)), ((aFL 2), .inl (cI, 64, .inl FL_far))]) [2, 3] rfl
  refine vp_callSi (va_runV (As := [.int y8, .int y14]) (rest := []) ⟨hx, hb, hml, hown, hts⟩ (c_X0_farOf l D cI cB cL cZ cG FL y8 y14 PL aFL FL_parting FL_far by8 by14 s_FL_far_0) (cwV 2 hts gX3_farOff_X0_farOf rfl rfl rfl (by decide +kernel) ⟨Nat.le_of_ble_eq_true rfl, Nat.le_of_ble_eq_true rfl⟩) ⟨xr_blind, va_recv hK hP (ci := 0) (q0 := 2) rfl rfl, fun U hU hW => xr_mk hU hW hPc hK⟩ rfl rfl hl.1 rfl (lv_room (Nat.le_of_ble_eq_true rfl)) dX3_farOff_15 ⟨Nat.le_of_ble_eq_true rfl, Nat.le_of_ble_eq_true rfl⟩).run (fun r15 hr15 => ?_)
  clear hPc
  refine lv_istore_n (lv' := [(3, .int r15), (0, .ref ME), (1, .ref row), (2, .int x1)]) hx hb dX3_farOff_18 rfl hl (by decide) rfl (fun ls hl => ?_)
  refine lv_iload_n hx hb dX3_farOff_19 rfl (lv_at hl 0 rfl) ?_
  refine lv_iconst (v := (-1)) hx hb dX3_farOff_20 (by decide) ?_
  refine lv_icmp_ne (tgt := 29) hx hb dX3_farOff_21 (by decide) (fun c21 => ?_) (fun c21 => ?_)
  · have bn21t_r15 : zB r15 0 7 := zB_neL c21 hr15 (show zB (-1) (-1) (-1) from ⟨by decide, by decide⟩) (by decide)
    refine lv_iload_n hx hb dX3_farOff_29 rfl (lv_at hl 0 rfl) ?_
    exact W.iret (v := r15) hx hb hr (fun t ht hW => ⟨r15, rfl, (zB_w bn21t_r15 (by decide) (by decide)), ht⟩) (fun q hq => by cases hq) dX3_farOff_30
  · have be21f_r15 : zB r15 (-1) (-1) := zB_eq c21 hr15 (show zB (-1) (-1) (-1) from ⟨by decide, by decide⟩) (by decide) (by decide)
    refine lv_bipush (v := 9) hx hb dX3_farOff_24 (by decide) ?_
    refine lv_goto (tgt := 30) hx hb dX3_farOff_26 (by decide) ?_
    exact W.iret (v := 9) hx hb hr (fun t ht hW => ⟨9, rfl, (zB_w (show zB 9 9 9 from ⟨by decide, by decide⟩) (by decide) (by decide)), ht⟩) (fun q hq => by cases hq) dX3_farOff_30
set_option maxHeartbeats 4000000 in
set_option maxRecDepth 100000 in
theorem c_X3_sureOf (l : Launch) (D : va_G) (cI : ClassId) (cB : ClassId) (cL : ClassId) (cZ : ClassId) (cG : ClassId) (ME : Nat) (row : Nat) (row_f : Nat → Int32) (x1 : Int32) (x2 : Int32) (FL : Nat) (aME : Nat → Nat) (ME_oldest : Int32) (ME_done : Int32) (ME_undone : Int32) (PL : Nat) (aFL : Nat → Nat) (FL_parting : Int32) (PL_rooms : Int32) (aPL : Nat → Nat) (PL_doors : Int32) (PL_things : Int32) (FO : Nat) (PL_draw : Int32) (PL_drawTold : Int32) (aFO : Nat → Nat) (FO_size : Int32) (FO_units : Int32) (FO_told : Int32) (PL_us : Nat → Int32) (PL_them : Nat → Int32) (FL_far : Nat → Int32) (FO_known : Nat → Int32) (FO_steps : Nat → Int32) (FO_stack : Nat → Int32) (sz : Nat) (b_x1 : zB x1 0 5) (b_ME_oldest : zB ME_oldest 0 40) (b_ME_done : zB ME_done 0 40) (b_ME_undone : zB ME_undone 0 40) (b_PL_rooms : zB PL_rooms 0 8) (b_PL_doors : zB PL_doors 0 12) (b_PL_things : zB PL_things 0 6) (b_FO_size : zB FO_size 0 400) (s_row_f_0 : zA row_f 0 12 0 7) (s_FL_far_0 : zA FL_far 0 64 (-1) 7) : Met l yX3_sureOf wsX3_sureOf ({ frames := 2, cells := 0, slots := 0, locals := 45 }) (xp D [(cI, .int), (cB, .byte), (cL, .long), (cZ, .boolean), (cG, .array .int)] [(row, .inl (cI, 32, .inl row_f)), (ME, .inr (3, oX3 FL aME ME_oldest ME_done ME_undone)), (FL, .inr (0, oX0 PL aFL FL_parting)), (PL, .inr (5, oX5 FO aPL PL_rooms PL_doors PL_things PL_draw PL_drawTold)), (FO, .inr (1, oX1 aFO FO_size FO_units FO_told)), ((aPL 11), .inl (cI, 6, .inl PL_us)), ((aPL 12), .inl (cI, 6, .inl PL_them)), ((aFL 2), .inl (cI, 64, .inl FL_far)), ((aFO 2), .inl (cI, 5, .inl FO_known)), ((aFO 0), .inl (cI, 400, .inl FO_steps)), ((aFO 1), .inl (cI, 61, .inl FO_stack))] sz [] [.ref ME, .ref row, .int x1, .int x2]) (va_Qi (fun (r : Int32) (_ : Unit) => zB r 0 100) (fun (_ : Unit) (t : State) => ∃ (nFOknown : Nat → Int32), ∃ (nFOstack : Nat → Int32), xB D (va_A [(row, .inl (cI, 32, .inl row_f)), (ME, .inr (3, oX3 FL aME ME_oldest ME_done ME_undone)), (FL, .inr (0, oX0 PL aFL FL_parting)), (PL, .inr (5, oX5 FO aPL PL_rooms PL_doors PL_things PL_draw PL_drawTold)), (FO, .inr (1, oX1 aFO FO_size FO_units FO_told)), ((aPL 11), .inl (cI, 6, .inl PL_us)), ((aPL 12), .inl (cI, 6, .inl PL_them)), ((aFL 2), .inl (cI, 64, .inl FL_far)), ((aFO 2), .inl (cI, 5, .inl FO_known)), ((aFO 0), .inl (cI, 400, .inl FO_steps)), ((aFO 1), .inl (cI, 61, .inl FO_stack))] sz) [(row, .inl (cI, 32, .inl row_f)), (ME, .inr (3, oX3 FL aME ME_oldest ME_done ME_undone)), (FL, .inr (0, oX0 PL aFL FL_parting)), (PL, .inr (5, oX5 FO aPL PL_rooms PL_doors PL_things PL_draw PL_drawTold)), (FO, .inr (1, oX1 aFO FO_size FO_units FO_told)), ((aPL 11), .inl (cI, 6, .inl PL_us)), ((aPL 12), .inl (cI, 6, .inl PL_them)), ((aFL 2), .inl (cI, 64, .inl FL_far)), ((aFO 2), .inl (cI, 5, .inl nFOknown)), ((aFO 0), .inl (cI, 400, .inl FO_steps)), ((aFO 1), .inl (cI, 61, .inl nFOstack))] t) (va_A [(row, .inl (cI, 32, .inl row_f)), (ME, .inr (3, oX3 FL aME ME_oldest ME_done ME_undone)), (FL, .inr (0, oX0 PL aFL FL_parting)), (PL, .inr (5, oX5 FO aPL PL_rooms PL_doors PL_things PL_draw PL_drawTold)), (FO, .inr (1, oX1 aFO FO_size FO_units FO_told)), ((aPL 11), .inl (cI, 6, .inl PL_us)), ((aPL 12), .inl (cI, 6, .inl PL_them)), ((aFL 2), .inl (cI, 64, .inl FL_far)), ((aFO 2), .inl (cI, 5, .inl FO_known)), ((aFO 0), .inl (cI, 400, .inl FO_steps)), ((aFO 1), .inl (cI, 61, .inl FO_stack))] sz)) 0 0 (va_A [(row, .inl (cI, 32, .inl row_f)), (ME, .inr (3, oX3 FL aME ME_oldest ME_done ME_undone)), (FL, .inr (0, oX0 PL aFL FL_parting)), (PL, .inr (5, oX5 FO aPL PL_rooms PL_doors PL_things PL_draw PL_drawTold)), (FO, .inr (1, oX1 aFO FO_size FO_units FO_told)), ((aPL 11), .inl (cI, 6, .inl PL_us)), ((aPL 12), .inl (cI, 6, .inl PL_them)), ((aFL 2), .inl (cI, 64, .inl FL_far)), ((aFO 2), .inl (cI, 5, .inl FO_known)), ((aFO 0), .inl (cI, 400, .inl FO_steps)), ((aFO 1), .inl (cI, 61, .inl FO_stack))] sz) := by
  refine Met.ofW (cc := cX3_sureOf) (maxL := 5) (ret := (some .int)) (by decide) rfl ?_
  intro p e s m args below meth c s₁ B hml hv
  obtain ⟨rfl, hsz, hP, hK, hD0, hNw⟩ := hv
  have hx := B.exec
  have hb := B.bytes
  have hr := B.returns
  have hts := atoms_spec (ws := wsX3_sureOf) B.pre
  have hown : s.vm.findClass RX3 = some m.cls := findClass_of_methodNamed B.named
  have hlocks := B.notSynchronized
  clear B
  subst hsz
  have hD := hD0.self (sz := s.heap.size)
  clear hD0 hNw
  generalize hAe : va_A [(row, .inl (cI, 32, .inl row_f)), (ME, .inr (3, oX3 FL aME ME_oldest ME_done ME_undone)), (FL, .inr (0, oX0 PL aFL FL_parting)), (PL, .inr (5, oX5 FO aPL PL_rooms PL_doors PL_things PL_draw PL_drawTold)), (FO, .inr (1, oX1 aFO FO_size FO_units FO_told)), ((aPL 11), .inl (cI, 6, .inl PL_us)), ((aPL 12), .inl (cI, 6, .inl PL_them)), ((aFL 2), .inl (cI, 64, .inl FL_far)), ((aFO 2), .inl (cI, 5, .inl FO_known)), ((aFO 0), .inl (cI, 400, .inl FO_steps)), ((aFO 1), .inl (cI, 61, .inl FO_stack))] s.heap.size = A at hD ⊢
  have hA : ∀ q : Nat, s.heap.size ≤ q → A q := fun q h => by rw [← hAe]; exact Or.inr h
  have hS : va_S A s.heap s.heap [] := va_S.rf
  clear hAe
  obtain ⟨H, hH⟩ : ∃ H : Heap, H = s.heap := ⟨_, rfl⟩
  obtain ⟨locs, hlocs⟩ : ∃ L : List Loc, L = [] := ⟨_, rfl⟩
  replace hP : va_P D classes [(row, .inl (cI, 32, .inl row_f)), (ME, .inr (3, oX3 FL aME ME_oldest ME_done ME_undone)), (FL, .inr (0, oX0 PL aFL FL_parting)), (PL, .inr (5, oX5 FO aPL PL_rooms PL_doors PL_things PL_draw PL_drawTold)), (FO, .inr (1, oX1 aFO FO_size FO_units FO_told)), ((aPL 11), .inl (cI, 6, .inl PL_us)), ((aPL 12), .inl (cI, 6, .inl PL_them)), ((aFL 2), .inl (cI, 64, .inl FL_far)), ((aFO 2), .inl (cI, 5, .inl FO_known)), ((aFO 0), .inl (cI, 400, .inl FO_steps)), ((aFO 1), .inl (cI, 61, .inl FO_stack))] H := by rw [hH]; exact hP
  replace hS : va_S A s.heap H locs := by rw [hH, hlocs]; exact hS
  rw [← hH, ← hlocs]
  clear hlocs hH
  have hl := lv_entry ([.ref ME, .ref row, .int x1, .int x2]) (n := 5) (Nat.le_of_ble_eq_true rfl)
  rw [lg_entry_eq]
  generalize (lg_sl ([.ref ME, .ref row, .int x1, .int x2]) ++ List.replicate (5 - (lg_sl ([.ref ME, .ref row, .int x1, .int x2])).length) Slot.unset).toArray = ls at hl ⊢
  replace hl : lv_has ls 5 [(0, .ref ME), (1, .ref row), (2, .int x1), (3, .int x2)] := hl
  refine lv_aload_n hx hb dX3_sureOf_0 rfl (lv_at hl 0 rfl) ?_
  refine va_get (D := D) (ci := 3) (v := .ref FL) (C := RX3) (T := TX3) (N := 9) hx hb hts iw_X3_sureOf_X3 hown hK hP 1 rfl rfl 0 (by decide) (hts (.fieldLink RX3 30 "SoldHouse$Memory" "floor" "LSoldHouse$Floor;") (List.mem_of_getElem? (i := 1) rfl)) (fun _ h9 => h9) rfl dX3_sureOf_1 ?_
  refine va_get (D := D) (ci := 0) (v := .ref PL) (C := RX0) (T := TX0) (N := 5) hx hb hts iw_X3_sureOf_X0 hown hK hP 2 rfl rfl 0 (by decide) (hts (.fieldLink RX3 34 "SoldHouse$Floor" "plan" "LSoldHouse$Plan;") (List.mem_of_getElem? (i := 2) rfl)) (fun _ h9 => h9) rfl dX3_sureOf_4 ?_
  refine va_get (D := D) (ci := 5) (v := .ref FO) (C := RX5) (T := TX5) (N := 16) hx hb hts iw_X3_sureOf_X5 hown hK hP 3 rfl rfl 13 (by decide) (hts (.fieldLink RX3 69 "SoldHouse$Plan" "sure" "LSoldHouse$Formula;") (List.mem_of_getElem? (i := 3) rfl)) (fun _ h9 => h9) rfl dX3_sureOf_7 ?_
  refine lv_astore (lv' := [(4, .ref FO), (0, .ref ME), (1, .ref row), (2, .int x1), (3, .int x2)]) hx hb dX3_sureOf_10 hl (by decide) rfl (fun ls hl => ?_)
  refine lv_aload hx hb dX3_sureOf_12 (lv_at hl 0 rfl) ?_
  refine va_get (D := D) (ci := 1) (v := .int FO_told) (C := RX1) (T := TX1) (N := 6) hx hb hts iw_X3_sureOf_X1 hown hK hP 4 rfl rfl 5 (by decide) (hts (.fieldLink RX3 73 "SoldHouse$Formula" "told" "Z") (List.mem_of_getElem? (i := 4) rfl)) (fun _ h9 => h9) rfl dX3_sureOf_14 ?_
  refine lv_if_ne (tgt := 23) hx hb dX3_sureOf_17 (by decide) (fun c17 => ?_) (fun c17 => ?_)
  · refine lv_aload hx hb dX3_sureOf_23 (lv_at hl 0 rfl) ?_
    refine lv_aload_n hx hb dX3_sureOf_25 rfl (lv_at hl 1 rfl) ?_
    refine va_get (D := D) (ci := 3) (v := .ref FL) (C := RX3) (T := TX3) (N := 9) hx hb hts iw_X3_sureOf_X3 hown hK hP 1 rfl rfl 0 (by decide) (hts (.fieldLink RX3 30 "SoldHouse$Memory" "floor" "LSoldHouse$Floor;") (List.mem_of_getElem? (i := 1) rfl)) (fun _ h9 => h9) rfl dX3_sureOf_26 ?_
    refine va_get (D := D) (ci := 0) (v := .ref PL) (C := RX0) (T := TX0) (N := 5) hx hb hts iw_X3_sureOf_X0 hown hK hP 2 rfl rfl 0 (by decide) (hts (.fieldLink RX3 34 "SoldHouse$Floor" "plan" "LSoldHouse$Plan;") (List.mem_of_getElem? (i := 2) rfl)) (fun _ h9 => h9) rfl dX3_sureOf_29 ?_
    refine va_get (D := D) (ci := 5) (v := .ref (aPL 11)) (C := RX5) (T := TX5) (N := 16) hx hb hts iw_X3_sureOf_X5 hown hK hP 3 rfl rfl 11 (by decide) (hts (.fieldLink RX3 79 "SoldHouse$Plan" "us" "[I") (List.mem_of_getElem? (i := 5) rfl)) (fun _ h9 => h9) rfl dX3_sureOf_32 ?_
    refine lv_iload_n hx hb dX3_sureOf_35 rfl (lv_at hl 3 rfl) ?_
    refine va_iald hx hb hK hP 5 0 rfl rfl (zB_in b_x1 (by decide) (by decide)) dX3_sureOf_36 ?_
    refine lv_topi (fun y36 _ => ?_)
    refine lv_aload_n hx hb dX3_sureOf_37 rfl (lv_at hl 1 rfl) ?_
    refine va_get (D := D) (ci := 3) (v := .ref FL) (C := RX3) (T := TX3) (N := 9) hx hb hts iw_X3_sureOf_X3 hown hK hP 1 rfl rfl 0 (by decide) (hts (.fieldLink RX3 30 "SoldHouse$Memory" "floor" "LSoldHouse$Floor;") (List.mem_of_getElem? (i := 1) rfl)) (fun _ h9 => h9) rfl dX3_sureOf_38 ?_
    refine va_get (D := D) (ci := 0) (v := .ref PL) (C := RX0) (T := TX0) (N := 5) hx hb hts iw_X3_sureOf_X0 hown hK hP 2 rfl rfl 0 (by decide) (hts (.fieldLink RX3 34 "SoldHouse$Floor" "plan" "LSoldHouse$Plan;") (List.mem_of_getElem? (i := 2) rfl)) (fun _ h9 => h9) rfl dX3_sureOf_41 ?_
    refine va_get (D := D) (ci := 5) (v := .ref (aPL 12)) (C := RX5) (T := TX5) (N := 16) hx hb hts iw_X3_sureOf_X5 hown hK hP 3 rfl rfl 12 (by decide) (hts (.fieldLink RX3 82 "SoldHouse$Plan" "them" "[I") (List.mem_of_getElem? (i := 6) rfl)) (fun _ h9 => h9) rfl dX3_sureOf_44 ?_
    refine lv_iload_n hx hb dX3_sureOf_47 rfl (lv_at hl 3 rfl) ?_
    refine va_iald hx hb hK hP 6 0 rfl rfl (zB_in b_x1 (by decide) (by decide)) dX3_sureOf_48 ?_
    refine lv_topi (fun y48 _ => ?_)
    refine lv_aload_n hx hb dX3_sureOf_49 rfl (lv_at hl 1 rfl) ?_
    refine lv_aload_n hx hb dX3_sureOf_50 rfl (lv_at hl 2 rfl) ?_
    refine lv_iload_n hx hb dX3_sureOf_51 rfl (lv_at hl 3 rfl) ?_
    have hPc := hP.sub (ws' := [(row, .inl (cI, 32, .inl row_f)), (ME, .inr (3, oX3 FL aME ME_oldest ME_done ME_undone)), (FL, .inr (0, oX0 PL aFL FL_parting)), ((aFL 2), .inl (cI, 64, .inl FL_far))]) [0, 1, 2, 7] rfl
    refine vp_callSi (va_runV (As := [.ref row, .int x1]) (rest := [.int y48, .int y36, .ref FO]) ⟨hx, hb, hml, hown, hts⟩ (c_X3_farOff l D cI cB cL cZ cG ME row row_f x1 FL aME ME_oldest ME_done ME_undone PL aFL FL_parting FL_far b_x1 b_ME_oldest b_ME_done b_ME_undone s_row_f_0 s_FL_far_0) (cwV 2 hts gX3_sureOf_X3_farOff rfl rfl rfl (by decide +kernel) ⟨Nat.le_of_ble_eq_true rfl, Nat.le_of_ble_eq_true rfl⟩) ⟨xr_blind, va_recv hK hP (ci := 3) (q0 := 1) rfl rfl, fun U hU hW => xr_mk hU hW hPc hK⟩ rfl rfl hl.1 rfl (lv_room (Nat.le_of_ble_eq_true rfl)) dX3_sureOf_52 ⟨Nat.le_of_ble_eq_true rfl, Nat.le_of_ble_eq_true rfl⟩).run (fun r52 hr52 => ?_)
    clear hPc
    refine lv_aload_n hx hb dX3_sureOf_55 rfl (lv_at hl 2 rfl) ?_
    refine lv_bipush (v := 18) hx hb dX3_sureOf_56 (by decide) ?_
    refine lv_iload_n hx hb dX3_sureOf_58 rfl (lv_at hl 3 rfl) ?_
    refine lv_iadd hx hb dX3_sureOf_59 ?_
    refine zi_top (a := 18) (b := 23) (zB_add (show zB 18 18 18 from ⟨by decide, by decide⟩) b_x1 (by decide) (by decide) (by decide) (by decide)) (fun y59 by59 => ?_)
    refine va_iald hx hb hK hP 0 0 rfl rfl (zB_in by59 (by decide) (by decide)) dX3_sureOf_60 ?_
    refine lv_topi (fun y60 _ => ?_)
    refine lv_iload_n hx hb dX3_sureOf_61 rfl (lv_at hl 4 rfl) ?_
    have hPc := hP.sub (ws' := [(FO, .inr (1, oX1 aFO FO_size FO_units FO_told)), ((aFO 2), .inl (cI, 5, .inl FO_known))]) [4, 8] rfl
    have hDc := hD.sub (ws' := [(FO, .inr (1, oX1 aFO FO_size FO_units FO_told)), ((aFO 2), .inl (cI, 5, .inl FO_known))]) [4, 8] (by decide) rfl
    have hFc := va_free (wc := [(FO, .inr (1, oX1 aFO FO_size FO_units FO_told)), ((aFO 2), .inl (cI, 5, .inl FO_known))]) hD hS hA [4, 8] rfl
    refine va_callv (va_runV (As := [.int y36, .int y48, .int r52, .int y60, .int x2]) (rest := []) ⟨hx, hb, hml, hown, hts⟩ (c_X1_know l D cI cB cL cZ cG FO y36 y48 r52 y60 x2 aFO FO_size FO_units FO_told FO_known H.size b_FO_size) (cwV 5 hts gX3_sureOf_X1_know rfl rfl rfl (by decide +kernel) ⟨Nat.le_of_ble_eq_true rfl, Nat.le_of_ble_eq_true rfl⟩) ⟨xp_blind, va_recv hK hP (ci := 1) (q0 := 4) rfl rfl, fun U hU hW => xp_mk hU hW hPc hK hDc xNw_nil⟩ rfl rfl hl.1 rfl (lv_room (Nat.le_of_ble_eq_true rfl)) dX3_sureOf_62 ⟨Nat.le_of_ble_eq_true rfl, Nat.le_of_ble_eq_true rfl⟩) hS (fun q _ h => hFc q h) hFc (fun u9 t9 H1 locs ht9 hvm9 hr62 hB9 hz9 hk9 hS => ?_)
    obtain ⟨o62_nFOknown, hP1, hD1⟩ := hB9
    rw [ht9] at hP1
    obtain ⟨hP, hD⟩ := va_join (wr := [(row, .inl (cI, 32, .inl row_f)), (ME, .inr (3, oX3 FL aME ME_oldest ME_done ME_undone)), (FL, .inr (0, oX0 PL aFL FL_parting)), (PL, .inr (5, oX5 FO aPL PL_rooms PL_doors PL_things PL_draw PL_drawTold)), ((aPL 11), .inl (cI, 6, .inl PL_us)), ((aPL 12), .inl (cI, 6, .inl PL_them)), ((aFL 2), .inl (cI, 64, .inl FL_far)), ((aFO 0), .inl (cI, 400, .inl FO_steps)), ((aFO 1), .inl (cI, 61, .inl FO_stack))]) (w1 := [(FO, .inr (1, oX1 aFO FO_size FO_units FO_told)), ((aFO 2), .inl (cI, 5, .inl o62_nFOknown))]) hP hD [4, 8] [0, 1, 2, 3, 5, 6, 7, 9, 10] rfl rfl (by decide) (by decide) hk9 hFc hP1 hD1
    clear hz9 hPc hDc hP1 hD1 hk9 hFc ht9 hvm9 u9 t9
    generalize H1 = H at hP hS ⊢
    replace hP : va_P D classes [(row, .inl (cI, 32, .inl row_f)), (ME, .inr (3, oX3 FL aME ME_oldest ME_done ME_undone)), (FL, .inr (0, oX0 PL aFL FL_parting)), (PL, .inr (5, oX5 FO aPL PL_rooms PL_doors PL_things PL_draw PL_drawTold)), (FO, .inr (1, oX1 aFO FO_size FO_units FO_told)), ((aPL 11), .inl (cI, 6, .inl PL_us)), ((aPL 12), .inl (cI, 6, .inl PL_them)), ((aFL 2), .inl (cI, 64, .inl FL_far)), ((aFO 2), .inl (cI, 5, .inl o62_nFOknown)), ((aFO 0), .inl (cI, 400, .inl FO_steps)), ((aFO 1), .inl (cI, 61, .inl FO_stack))] H := hP.sub [0, 1, 2, 3, 9, 4, 5, 6, 10, 7, 8] rfl
    replace hD : va_D A [(row, .inl (cI, 32, .inl row_f)), (ME, .inr (3, oX3 FL aME ME_oldest ME_done ME_undone)), (FL, .inr (0, oX0 PL aFL FL_parting)), (PL, .inr (5, oX5 FO aPL PL_rooms PL_doors PL_things PL_draw PL_drawTold)), (FO, .inr (1, oX1 aFO FO_size FO_units FO_told)), ((aPL 11), .inl (cI, 6, .inl PL_us)), ((aPL 12), .inl (cI, 6, .inl PL_them)), ((aFL 2), .inl (cI, 64, .inl FL_far)), ((aFO 2), .inl (cI, 5, .inl o62_nFOknown)), ((aFO 0), .inl (cI, 400, .inl FO_steps)), ((aFO 1), .inl (cI, 61, .inl FO_stack))] := hD.sub [0, 1, 2, 3, 9, 4, 5, 6, 10, 7, 8] (by decide) rfl
    refine lv_iconst (v := 0) hx hb dX3_sureOf_65 (by decide) ?_
    refine lv_bipush (v := 100) hx hb dX3_sureOf_66 (by decide) ?_
    refine lv_aload hx hb dX3_sureOf_68 (lv_at hl 0 rfl) ?_
    have hPc := hP.sub (ws' := [(FO, .inr (1, oX1 aFO FO_size FO_units FO_told)), ((aFO 0), .inl (cI, 400, .inl FO_steps)), ((aFO 1), .inl (cI, 61, .inl FO_stack)), ((aFO 2), .inl (cI, 5, .inl o62_nFOknown))]) [4, 9, 10, 8] rfl
    have hDc := hD.sub (ws' := [(FO, .inr (1, oX1 aFO FO_size FO_units FO_told)), ((aFO 0), .inl (cI, 400, .inl FO_steps)), ((aFO 1), .inl (cI, 61, .inl FO_stack)), ((aFO 2), .inl (cI, 5, .inl o62_nFOknown))]) [4, 9, 10, 8] (by decide) rfl
    have hFc := va_free (wc := [(FO, .inr (1, oX1 aFO FO_size FO_units FO_told)), ((aFO 0), .inl (cI, 400, .inl FO_steps)), ((aFO 1), .inl (cI, 61, .inl FO_stack)), ((aFO 2), .inl (cI, 5, .inl o62_nFOknown))]) hD hS hA [4, 9, 10, 8] rfl
    refine va_calli (va_runV (As := []) (rest := [.int 100, .int 0]) ⟨hx, hb, hml, hown, hts⟩ (c_X1_work l D cI cB cL cZ cG FO aFO FO_size FO_units FO_told FO_steps FO_stack o62_nFOknown H.size b_FO_size) (cwV 0 hts gX3_sureOf_X1_work rfl rfl rfl (by decide +kernel) ⟨Nat.le_of_ble_eq_true rfl, Nat.le_of_ble_eq_true rfl⟩) ⟨xp_blind, va_recv hK hP (ci := 1) (q0 := 4) rfl rfl, fun U hU hW => xp_mk hU hW hPc hK hDc xNw_nil⟩ rfl rfl hl.1 rfl (lv_room (Nat.le_of_ble_eq_true rfl)) dX3_sureOf_70 ⟨Nat.le_of_ble_eq_true rfl, Nat.le_of_ble_eq_true rfl⟩) hS (fun q _ h => hFc q h) hFc (fun r70 u9 t9 H1 locs ht9 hvm9 hr70 hB9 hz9 hk9 hS => ?_)
    obtain ⟨o70_nFOstack, hP1, hD1⟩ := hB9
    rw [ht9] at hP1
    obtain ⟨hP, hD⟩ := va_join (wr := [(row, .inl (cI, 32, .inl row_f)), (ME, .inr (3, oX3 FL aME ME_oldest ME_done ME_undone)), (FL, .inr (0, oX0 PL aFL FL_parting)), (PL, .inr (5, oX5 FO aPL PL_rooms PL_doors PL_things PL_draw PL_drawTold)), ((aPL 11), .inl (cI, 6, .inl PL_us)), ((aPL 12), .inl (cI, 6, .inl PL_them)), ((aFL 2), .inl (cI, 64, .inl FL_far))]) (w1 := [(FO, .inr (1, oX1 aFO FO_size FO_units FO_told)), ((aFO 0), .inl (cI, 400, .inl FO_steps)), ((aFO 1), .inl (cI, 61, .inl o70_nFOstack)), ((aFO 2), .inl (cI, 5, .inl o62_nFOknown))]) hP hD [4, 9, 10, 8] [0, 1, 2, 3, 5, 6, 7] rfl rfl (by decide) (by decide) hk9 hFc hP1 hD1
    clear hz9 hPc hDc hP1 hD1 hk9 hFc ht9 hvm9 u9 t9
    generalize H1 = H at hP hS ⊢
    replace hP : va_P D classes [(row, .inl (cI, 32, .inl row_f)), (ME, .inr (3, oX3 FL aME ME_oldest ME_done ME_undone)), (FL, .inr (0, oX0 PL aFL FL_parting)), (PL, .inr (5, oX5 FO aPL PL_rooms PL_doors PL_things PL_draw PL_drawTold)), (FO, .inr (1, oX1 aFO FO_size FO_units FO_told)), ((aPL 11), .inl (cI, 6, .inl PL_us)), ((aPL 12), .inl (cI, 6, .inl PL_them)), ((aFL 2), .inl (cI, 64, .inl FL_far)), ((aFO 2), .inl (cI, 5, .inl o62_nFOknown)), ((aFO 0), .inl (cI, 400, .inl FO_steps)), ((aFO 1), .inl (cI, 61, .inl o70_nFOstack))] H := hP.sub [0, 1, 2, 3, 7, 4, 5, 6, 10, 8, 9] rfl
    replace hD : va_D A [(row, .inl (cI, 32, .inl row_f)), (ME, .inr (3, oX3 FL aME ME_oldest ME_done ME_undone)), (FL, .inr (0, oX0 PL aFL FL_parting)), (PL, .inr (5, oX5 FO aPL PL_rooms PL_doors PL_things PL_draw PL_drawTold)), (FO, .inr (1, oX1 aFO FO_size FO_units FO_told)), ((aPL 11), .inl (cI, 6, .inl PL_us)), ((aPL 12), .inl (cI, 6, .inl PL_them)), ((aFL 2), .inl (cI, 64, .inl FL_far)), ((aFO 2), .inl (cI, 5, .inl o62_nFOknown)), ((aFO 0), .inl (cI, 400, .inl FO_steps)), ((aFO 1), .inl (cI, 61, .inl o70_nFOstack))] := hD.sub [0, 1, 2, 3, 7, 4, 5, 6, 10, 8, 9] (by decide) rfl
    clear hr70
    refine va_mmin hx hb (by rw [hml]; exact hl.1.symm) hown (hts (.methodLink RX3 97 Lib.Math.min.name) (List.mem_of_getElem? (i := 7) rfl)) (hts (.static Lib.Math.min.name) (List.mem_of_getElem? (i := 8) rfl)) (hts (.initialized "java/lang/Math") (List.mem_of_getElem? (i := 9) rfl)) (hts (.code Lib.Math.min.name Lib.Math.min.code 2 (some .int)) (List.mem_of_getElem? (i := 10) rfl)) (Nat.le_of_ble_eq_true rfl) (Nat.le_of_ble_eq_true rfl) (Nat.le_of_ble_eq_true rfl) (Nat.le_of_ble_eq_true rfl) dX3_sureOf_73 ?_
    refine zi_top (a := (-2147483648)) (b := 100) (zB_min (show zB 100 100 100 from ⟨by decide, by decide⟩) (zB_top r70) (by decide) (by decide)) (fun y73 by73 => ?_)
    refine va_mmax hx hb (by rw [hml]; exact hl.1.symm) hown (hts (.methodLink RX3 102 Lib.Math.max.name) (List.mem_of_getElem? (i := 11) rfl)) (hts (.static Lib.Math.max.name) (List.mem_of_getElem? (i := 12) rfl)) (hts (.initialized "java/lang/Math") (List.mem_of_getElem? (i := 9) rfl)) (hts (.code Lib.Math.max.name Lib.Math.max.code 2 (some .int)) (List.mem_of_getElem? (i := 13) rfl)) (Nat.le_of_ble_eq_true rfl) (Nat.le_of_ble_eq_true rfl) (Nat.le_of_ble_eq_true rfl) (Nat.le_of_ble_eq_true rfl) dX3_sureOf_76 ?_
    refine zi_top (a := 0) (b := 100) (zB_max (show zB 0 0 0 from ⟨by decide, by decide⟩) by73 (by decide) (by decide)) (fun y76 by76 => ?_)
    exact W.iret (v := y76) hx hb hr (fun t ht hW => ⟨⟨y76, (), rfl, by76, ⟨o62_nFOknown, o70_nFOstack, by rw [ht]; exact hP, hD⟩⟩, hS.F ht⟩) hS.2.2 dX3_sureOf_79
  · have be17f_FO_told : zB FO_told 0 0 := zB_eq c17 (zB_top FO_told) (show zB 0 0 0 from ⟨by decide, by decide⟩) (by decide) (by decide)
    refine lv_bipush (v := 100) hx hb dX3_sureOf_20 (by decide) ?_
    exact W.iret (v := 100) hx hb hr (fun t ht hW => ⟨⟨100, (), rfl, (zB_w (show zB 100 100 100 from ⟨by decide, by decide⟩) (by decide) (by decide)), ⟨FO_known, FO_stack, by rw [ht]; exact hP, hD⟩⟩, hS.F ht⟩) hS.2.2 dX3_sureOf_22
set_option maxHeartbeats 4000000 in
set_option maxRecDepth 100000 in
theorem c_X3_speak (l : Launch) (D : va_G) (cI : ClassId) (cB : ClassId) (cL : ClassId) (cZ : ClassId) (cG : ClassId) (ME : Nat) (x0 : Int32) (x1 : Int32) (FL : Nat) (aME : Nat → Nat) (ME_oldest : Int32) (ME_done : Int32) (ME_undone : Int32) (ME_now : Nat → Int32) (sz : Nat) (b_x0 : zB x0 0 5) (b_ME_oldest : zB ME_oldest 0 40) (b_ME_done : zB ME_done 0 40) (b_ME_undone : zB ME_undone 0 40) (s_ME_now_0 : zA ME_now 0 12 0 7) : Met l yX3_speak wsX3_speak ({ frames := 1, cells := 0, slots := 0, locals := 21 }) (xp D [(cI, .int), (cB, .byte), (cL, .long), (cZ, .boolean), (cG, .array .int)] [(ME, .inr (3, oX3 FL aME ME_oldest ME_done ME_undone)), ((aME 1), .inl (cI, 32, .inl ME_now))] sz [] [.ref ME, .int x0, .int x1]) (va_Qv (fun _ : Unit => True) (fun (_ : Unit) (t : State) => ∃ (nMEnow : Nat → Int32), zA nMEnow 0 12 0 7 ∧ xB D (va_A [(ME, .inr (3, oX3 FL aME ME_oldest ME_done ME_undone)), ((aME 1), .inl (cI, 32, .inl ME_now))] sz) [(ME, .inr (3, oX3 FL aME ME_oldest ME_done ME_undone)), ((aME 1), .inl (cI, 32, .inl nMEnow))] t) (va_A [(ME, .inr (3, oX3 FL aME ME_oldest ME_done ME_undone)), ((aME 1), .inl (cI, 32, .inl ME_now))] sz)) 0 0 (va_A [(ME, .inr (3, oX3 FL aME ME_oldest ME_done ME_undone)), ((aME 1), .inl (cI, 32, .inl ME_now))] sz) := by
  refine Met.ofW (cc := cX3_speak) (maxL := 3) (ret := none) (by decide) rfl ?_
  intro p e s m args below meth c s₁ B hml hv
  obtain ⟨rfl, hsz, hP, hK, hD0, hNw⟩ := hv
  have hx := B.exec
  have hb := B.bytes
  have hr := B.returns
  have hts := atoms_spec (ws := wsX3_speak) B.pre
  have hown : s.vm.findClass RX3 = some m.cls := findClass_of_methodNamed B.named
  have hlocks := B.notSynchronized
  clear B
  subst hsz
  have hD := hD0.self (sz := s.heap.size)
  clear hD0 hNw
  generalize hAe : va_A [(ME, .inr (3, oX3 FL aME ME_oldest ME_done ME_undone)), ((aME 1), .inl (cI, 32, .inl ME_now))] s.heap.size = A at hD ⊢
  have hA : ∀ q : Nat, s.heap.size ≤ q → A q := fun q h => by rw [← hAe]; exact Or.inr h
  have hS : va_S A s.heap s.heap [] := va_S.rf
  clear hAe
  obtain ⟨H, hH⟩ : ∃ H : Heap, H = s.heap := ⟨_, rfl⟩
  obtain ⟨locs, hlocs⟩ : ∃ L : List Loc, L = [] := ⟨_, rfl⟩
  replace hP : va_P D classes [(ME, .inr (3, oX3 FL aME ME_oldest ME_done ME_undone)), ((aME 1), .inl (cI, 32, .inl ME_now))] H := by rw [hH]; exact hP
  replace hS : va_S A s.heap H locs := by rw [hH, hlocs]; exact hS
  rw [← hH, ← hlocs]
  clear hlocs hH
  have hl := lv_entry ([.ref ME, .int x0, .int x1]) (n := 3) (Nat.le_of_ble_eq_true rfl)
  rw [lg_entry_eq]
  generalize (lg_sl ([.ref ME, .int x0, .int x1]) ++ List.replicate (3 - (lg_sl ([.ref ME, .int x0, .int x1])).length) Slot.unset).toArray = ls at hl ⊢
  replace hl : lv_has ls 3 [(0, .ref ME), (1, .int x0), (2, .int x1)] := hl
  refine lv_aload_n hx hb dX3_speak_0 rfl (lv_at hl 0 rfl) ?_
  refine va_get (D := D) (ci := 3) (v := .ref (aME 1)) (C := RX3) (T := TX3) (N := 9) hx hb hts iw_X3_speak_X3 hown hK hP 0 rfl rfl 1 (by decide) (hts (.fieldLink RX3 11 "SoldHouse$Memory" "now" "[I") (List.mem_of_getElem? (i := 1) rfl)) (fun _ h9 => h9) rfl dX3_speak_1 ?_
  refine lv_bipush (v := 24) hx hb dX3_speak_4 (by decide) ?_
  refine lv_iload_n hx hb dX3_speak_6 rfl (lv_at hl 1 rfl) ?_
  refine lv_iadd hx hb dX3_speak_7 ?_
  refine zi_top (a := 24) (b := 29) (zB_add (show zB 24 24 24 from ⟨by decide, by decide⟩) b_x0 (by decide) (by decide) (by decide) (by decide)) (fun y7 by7 => ?_)
  refine va_iald hx hb hK hP 1 0 rfl rfl (zB_in by7 (by decide) (by decide)) dX3_speak_8 ?_
  refine lv_topi (fun y8 _ => ?_)
  refine lv_iload_n hx hb dX3_speak_9 rfl (lv_at hl 2 rfl) ?_
  refine lv_icmp_eq (tgt := 48) hx hb dX3_speak_10 (by decide) (fun c10 => ?_) (fun c10 => ?_)
  · exact W.vret hx hb hr (fun t ht hW => ⟨⟨(), rfl, trivial, ⟨ME_now, s_ME_now_0, by rw [ht]; exact hP, hD⟩⟩, hS.F ht⟩) hS.2.2 dX3_speak_48
  · refine lv_aload_n hx hb dX3_speak_13 rfl (lv_at hl 0 rfl) ?_
    refine va_get (D := D) (ci := 3) (v := .ref (aME 1)) (C := RX3) (T := TX3) (N := 9) hx hb hts iw_X3_speak_X3 hown hK hP 0 rfl rfl 1 (by decide) (hts (.fieldLink RX3 11 "SoldHouse$Memory" "now" "[I") (List.mem_of_getElem? (i := 1) rfl)) (fun _ h9 => h9) rfl dX3_speak_14 ?_
    refine lv_bipush (v := 18) hx hb dX3_speak_17 (by decide) ?_
    refine lv_iload_n hx hb dX3_speak_19 rfl (lv_at hl 1 rfl) ?_
    refine lv_iadd hx hb dX3_speak_20 ?_
    refine zi_top (a := 18) (b := 23) (zB_add (show zB 18 18 18 from ⟨by decide, by decide⟩) b_x0 (by decide) (by decide) (by decide) (by decide)) (fun y20 by20 => ?_)
    refine lv_bipush (v := 99) hx hb dX3_speak_21 (by decide) ?_
    refine lv_aload_n hx hb dX3_speak_23 rfl (lv_at hl 0 rfl) ?_
    refine va_get (D := D) (ci := 3) (v := .ref (aME 1)) (C := RX3) (T := TX3) (N := 9) hx hb hts iw_X3_speak_X3 hown hK hP 0 rfl rfl 1 (by decide) (hts (.fieldLink RX3 11 "SoldHouse$Memory" "now" "[I") (List.mem_of_getElem? (i := 1) rfl)) (fun _ h9 => h9) rfl dX3_speak_24 ?_
    refine lv_bipush (v := 18) hx hb dX3_speak_27 (by decide) ?_
    refine lv_iload_n hx hb dX3_speak_29 rfl (lv_at hl 1 rfl) ?_
    refine lv_iadd hx hb dX3_speak_30 ?_
    refine zi_top (a := 18) (b := 23) (zB_add (show zB 18 18 18 from ⟨by decide, by decide⟩) b_x0 (by decide) (by decide) (by decide) (by decide)) (fun y30 by30 => ?_)
    refine va_iald hx hb hK hP 1 0 rfl rfl (zB_in by30 (by decide) (by decide)) dX3_speak_31 ?_
    refine lv_topi (fun y31 _ => ?_)
    refine lv_iconst (v := 1) hx hb dX3_speak_32 (by decide) ?_
    refine lv_iadd hx hb dX3_speak_33 ?_
    refine lv_topi (fun y33 _ => ?_)
    refine va_mmin hx hb (by rw [hml]; exact hl.1.symm) hown (hts (.methodLink RX3 97 Lib.Math.min.name) (List.mem_of_getElem? (i := 2) rfl)) (hts (.static Lib.Math.min.name) (List.mem_of_getElem? (i := 3) rfl)) (hts (.initialized "java/lang/Math") (List.mem_of_getElem? (i := 4) rfl)) (hts (.code Lib.Math.min.name Lib.Math.min.code 2 (some .int)) (List.mem_of_getElem? (i := 5) rfl)) (Nat.le_of_ble_eq_true rfl) (Nat.le_of_ble_eq_true rfl) (Nat.le_of_ble_eq_true rfl) (Nat.le_of_ble_eq_true rfl) dX3_speak_34 ?_
    refine zi_top (a := (-2147483648)) (b := 99) (zB_min (show zB 99 99 99 from ⟨by decide, by decide⟩) (zB_top y33) (by decide) (by decide)) (fun y34 by34 => ?_)
    refine zi_iast hx hb hK hP hD hS 1 0 rfl rfl (zB_in by20 (by decide) (by decide)) dX3_speak_37 (fun H locs g37 eg37 hP hD hS => ?_)
    replace hP : va_P D classes [(ME, .inr (3, oX3 FL aME ME_oldest ME_done ME_undone)), ((aME 1), .inl (cI, 32, .inl g37))] H := hP
    replace hD : va_D A [(ME, .inr (3, oX3 FL aME ME_oldest ME_done ME_undone)), ((aME 1), .inl (cI, 32, .inl g37))] := hD
    have sg37_0 := zA_un eg37 s_ME_now_0 by20 (by decide) (by decide)
    clear eg37
    refine lv_aload_n hx hb dX3_speak_38 rfl (lv_at hl 0 rfl) ?_
    refine va_get (D := D) (ci := 3) (v := .ref (aME 1)) (C := RX3) (T := TX3) (N := 9) hx hb hts iw_X3_speak_X3 hown hK hP 0 rfl rfl 1 (by decide) (hts (.fieldLink RX3 11 "SoldHouse$Memory" "now" "[I") (List.mem_of_getElem? (i := 1) rfl)) (fun _ h9 => h9) rfl dX3_speak_39 ?_
    refine lv_bipush (v := 24) hx hb dX3_speak_42 (by decide) ?_
    refine lv_iload_n hx hb dX3_speak_44 rfl (lv_at hl 1 rfl) ?_
    refine lv_iadd hx hb dX3_speak_45 ?_
    refine zi_top (a := 24) (b := 29) (zB_add (show zB 24 24 24 from ⟨by decide, by decide⟩) b_x0 (by decide) (by decide) (by decide) (by decide)) (fun y45 by45 => ?_)
    refine lv_iload_n hx hb dX3_speak_46 rfl (lv_at hl 2 rfl) ?_
    refine zi_iast hx hb hK hP hD hS 1 0 rfl rfl (zB_in by45 (by decide) (by decide)) dX3_speak_47 (fun H locs g47 eg47 hP hD hS => ?_)
    replace hP : va_P D classes [(ME, .inr (3, oX3 FL aME ME_oldest ME_done ME_undone)), ((aME 1), .inl (cI, 32, .inl g47))] H := hP
    replace hD : va_D A [(ME, .inr (3, oX3 FL aME ME_oldest ME_done ME_undone)), ((aME 1), .inl (cI, 32, .inl g47))] := hD
    have sg47_0 := zA_un eg47 sg37_0 by45 (by decide) (by decide)
    clear eg47
    exact W.vret hx hb hr (fun t ht hW => ⟨⟨(), rfl, trivial, ⟨g47, sg47_0, by rw [ht]; exact hP, hD⟩⟩, hS.F ht⟩) hS.2.2 dX3_speak_48
set_option maxHeartbeats 4000000 in
set_option maxRecDepth 100000 in
theorem c_X3_bring (l : Launch) (D : va_G) (cI : ClassId) (cB : ClassId) (cL : ClassId) (cZ : ClassId) (cG : ClassId) (ME : Nat) (x0 : Int32) (x1 : Int32) (FL : Nat) (aME : Nat → Nat) (ME_oldest : Int32) (ME_done : Int32) (ME_undone : Int32) (ME_now : Nat → Int32) (sz : Nat) (b_x0 : zB x0 0 5) (b_x1 : zB x1 0 7) (b_ME_oldest : zB ME_oldest 0 40) (b_ME_done : zB ME_done 0 40) (b_ME_undone : zB ME_undone 0 40) (s_ME_now_0 : zA ME_now 0 12 0 7) : Met l yX3_bring wsX3_bring ({ frames := 0, cells := 0, slots := 0, locals := 0 }) (xp D [(cI, .int), (cB, .byte), (cL, .long), (cZ, .boolean), (cG, .array .int)] [(ME, .inr (3, oX3 FL aME ME_oldest ME_done ME_undone)), ((aME 1), .inl (cI, 32, .inl ME_now))] sz [] [.ref ME, .int x0, .int x1]) (va_Qv (fun _ : Unit => True) (fun (_ : Unit) (t : State) => ∃ (nMEnow : Nat → Int32), zA nMEnow 0 12 0 7 ∧ xB D (va_A [(ME, .inr (3, oX3 FL aME ME_oldest ME_done ME_undone)), ((aME 1), .inl (cI, 32, .inl ME_now))] sz) [(ME, .inr (3, oX3 FL aME ME_oldest ME_done ME_undone)), ((aME 1), .inl (cI, 32, .inl nMEnow))] t) (va_A [(ME, .inr (3, oX3 FL aME ME_oldest ME_done ME_undone)), ((aME 1), .inl (cI, 32, .inl ME_now))] sz)) 0 0 (va_A [(ME, .inr (3, oX3 FL aME ME_oldest ME_done ME_undone)), ((aME 1), .inl (cI, 32, .inl ME_now))] sz) := by
  refine Met.ofW (cc := cX3_bring) (maxL := 3) (ret := none) (by decide) rfl ?_
  intro p e s m args below meth c s₁ B hml hv
  obtain ⟨rfl, hsz, hP, hK, hD0, hNw⟩ := hv
  have hx := B.exec
  have hb := B.bytes
  have hr := B.returns
  have hts := atoms_spec (ws := wsX3_bring) B.pre
  have hown : s.vm.findClass RX3 = some m.cls := findClass_of_methodNamed B.named
  have hlocks := B.notSynchronized
  clear B
  subst hsz
  have hD := hD0.self (sz := s.heap.size)
  clear hD0 hNw
  generalize hAe : va_A [(ME, .inr (3, oX3 FL aME ME_oldest ME_done ME_undone)), ((aME 1), .inl (cI, 32, .inl ME_now))] s.heap.size = A at hD ⊢
  have hA : ∀ q : Nat, s.heap.size ≤ q → A q := fun q h => by rw [← hAe]; exact Or.inr h
  have hS : va_S A s.heap s.heap [] := va_S.rf
  clear hAe
  obtain ⟨H, hH⟩ : ∃ H : Heap, H = s.heap := ⟨_, rfl⟩
  obtain ⟨locs, hlocs⟩ : ∃ L : List Loc, L = [] := ⟨_, rfl⟩
  replace hP : va_P D classes [(ME, .inr (3, oX3 FL aME ME_oldest ME_done ME_undone)), ((aME 1), .inl (cI, 32, .inl ME_now))] H := by rw [hH]; exact hP
  replace hS : va_S A s.heap H locs := by rw [hH, hlocs]; exact hS
  rw [← hH, ← hlocs]
  clear hlocs hH
  have hl := lv_entry ([.ref ME, .int x0, .int x1]) (n := 3) (Nat.le_of_ble_eq_true rfl)
  rw [lg_entry_eq]
  generalize (lg_sl ([.ref ME, .int x0, .int x1]) ++ List.replicate (3 - (lg_sl ([.ref ME, .int x0, .int x1])).length) Slot.unset).toArray = ls at hl ⊢
  replace hl : lv_has ls 3 [(0, .ref ME), (1, .int x0), (2, .int x1)] := hl
  refine lv_aload_n hx hb dX3_bring_0 rfl (lv_at hl 0 rfl) ?_
  refine va_get (D := D) (ci := 3) (v := .ref (aME 1)) (C := RX3) (T := TX3) (N := 9) hx hb hts iw_X3_bring_X3 hown hK hP 0 rfl rfl 1 (by decide) (hts (.fieldLink RX3 11 "SoldHouse$Memory" "now" "[I") (List.mem_of_getElem? (i := 1) rfl)) (fun _ h9 => h9) rfl dX3_bring_1 ?_
  refine lv_iconst (v := 0) hx hb dX3_bring_4 (by decide) ?_
  refine lv_iload_n hx hb dX3_bring_5 rfl (lv_at hl 1 rfl) ?_
  refine lv_iadd hx hb dX3_bring_6 ?_
  refine zi_top (a := 0) (b := 5) (zB_add (show zB 0 0 0 from ⟨by decide, by decide⟩) b_x0 (by decide) (by decide) (by decide) (by decide)) (fun y6 by6 => ?_)
  refine lv_iload_n hx hb dX3_bring_7 rfl (lv_at hl 2 rfl) ?_
  refine zi_iast hx hb hK hP hD hS 1 0 rfl rfl (zB_in by6 (by decide) (by decide)) dX3_bring_8 (fun H locs g8 eg8 hP hD hS => ?_)
  replace hP : va_P D classes [(ME, .inr (3, oX3 FL aME ME_oldest ME_done ME_undone)), ((aME 1), .inl (cI, 32, .inl g8))] H := hP
  replace hD : va_D A [(ME, .inr (3, oX3 FL aME ME_oldest ME_done ME_undone)), ((aME 1), .inl (cI, 32, .inl g8))] := hD
  have sg8_0 := zA_up eg8 s_ME_now_0 b_x1 (by decide) (by decide)
  clear eg8
  refine lv_aload_n hx hb dX3_bring_9 rfl (lv_at hl 0 rfl) ?_
  refine va_get (D := D) (ci := 3) (v := .ref (aME 1)) (C := RX3) (T := TX3) (N := 9) hx hb hts iw_X3_bring_X3 hown hK hP 0 rfl rfl 1 (by decide) (hts (.fieldLink RX3 11 "SoldHouse$Memory" "now" "[I") (List.mem_of_getElem? (i := 1) rfl)) (fun _ h9 => h9) rfl dX3_bring_10 ?_
  refine lv_bipush (v := 18) hx hb dX3_bring_13 (by decide) ?_
  refine lv_iload_n hx hb dX3_bring_15 rfl (lv_at hl 1 rfl) ?_
  refine lv_iadd hx hb dX3_bring_16 ?_
  refine zi_top (a := 18) (b := 23) (zB_add (show zB 18 18 18 from ⟨by decide, by decide⟩) b_x0 (by decide) (by decide) (by decide) (by decide)) (fun y16 by16 => ?_)
  refine lv_iconst (v := 0) hx hb dX3_bring_17 (by decide) ?_
  refine zi_iast hx hb hK hP hD hS 1 0 rfl rfl (zB_in by16 (by decide) (by decide)) dX3_bring_18 (fun H locs g18 eg18 hP hD hS => ?_)
  replace hP : va_P D classes [(ME, .inr (3, oX3 FL aME ME_oldest ME_done ME_undone)), ((aME 1), .inl (cI, 32, .inl g18))] H := hP
  replace hD : va_D A [(ME, .inr (3, oX3 FL aME ME_oldest ME_done ME_undone)), ((aME 1), .inl (cI, 32, .inl g18))] := hD
  have sg18_0 := zA_un eg18 sg8_0 by16 (by decide) (by decide)
  clear eg18
  refine lv_aload_n hx hb dX3_bring_19 rfl (lv_at hl 0 rfl) ?_
  refine va_get (D := D) (ci := 3) (v := .ref (aME 1)) (C := RX3) (T := TX3) (N := 9) hx hb hts iw_X3_bring_X3 hown hK hP 0 rfl rfl 1 (by decide) (hts (.fieldLink RX3 11 "SoldHouse$Memory" "now" "[I") (List.mem_of_getElem? (i := 1) rfl)) (fun _ h9 => h9) rfl dX3_bring_20 ?_
  refine lv_bipush (v := 24) hx hb dX3_bring_23 (by decide) ?_
  refine lv_iload_n hx hb dX3_bring_25 rfl (lv_at hl 1 rfl) ?_
  refine lv_iadd hx hb dX3_bring_26 ?_
  refine zi_top (a := 24) (b := 29) (zB_add (show zB 24 24 24 from ⟨by decide, by decide⟩) b_x0 (by decide) (by decide) (by decide) (by decide)) (fun y26 by26 => ?_)
  refine lv_iconst (v := (-1)) hx hb dX3_bring_27 (by decide) ?_
  refine zi_iast hx hb hK hP hD hS 1 0 rfl rfl (zB_in by26 (by decide) (by decide)) dX3_bring_28 (fun H locs g28 eg28 hP hD hS => ?_)
  replace hP : va_P D classes [(ME, .inr (3, oX3 FL aME ME_oldest ME_done ME_undone)), ((aME 1), .inl (cI, 32, .inl g28))] H := hP
  replace hD : va_D A [(ME, .inr (3, oX3 FL aME ME_oldest ME_done ME_undone)), ((aME 1), .inl (cI, 32, .inl g28))] := hD
  have sg28_0 := zA_un eg28 sg18_0 by26 (by decide) (by decide)
  clear eg28
  exact W.vret hx hb hr (fun t ht hW => ⟨⟨(), rfl, trivial, ⟨g28, sg28_0, by rw [ht]; exact hP, hD⟩⟩, hS.F ht⟩) hS.2.2 dX3_bring_29
set_option maxHeartbeats 4000000 in
set_option maxRecDepth 100000 in
theorem c_X3_passDay (l : Launch) (D : va_G) (cI : ClassId) (cB : ClassId) (cL : ClassId) (cZ : ClassId) (cG : ClassId) (ME : Nat) (row : Nat) (row_f : Nat → Int32) (FL : Nat) (aME : Nat → Nat) (ME_oldest : Int32) (ME_done : Int32) (ME_undone : Int32) (PL : Nat) (aFL : Nat → Nat) (FL_parting : Int32) (PL_rooms : Int32) (aPL : Nat → Nat) (PL_doors : Int32) (PL_things : Int32) (FO : Nat) (PL_draw : Int32) (PL_drawTold : Int32) (aFO : Nat → Nat) (FO_size : Int32) (FO_units : Int32) (FO_told : Int32) (PL_us : Nat → Int32) (PL_them : Nat → Int32) (FL_far : Nat → Int32) (FO_known : Nat → Int32) (FO_steps : Nat → Int32) (FO_stack : Nat → Int32) (sz : Nat) (b_ME_oldest : zB ME_oldest 0 40) (b_ME_done : zB ME_done 0 40) (b_ME_undone : zB ME_undone 0 40) (b_PL_rooms : zB PL_rooms 0 8) (b_PL_doors : zB PL_doors 0 12) (b_PL_things : zB PL_things 0 6) (b_FO_size : zB FO_size 0 400) (s_row_f_0 : zA row_f 0 12 0 7) (s_FL_far_0 : zA FL_far 0 64 (-1) 7) : Met l yX3_passDay wsX3_passDay ({ frames := 3, cells := 0, slots := 0, locals := 69 }) (xp D [(cI, .int), (cB, .byte), (cL, .long), (cZ, .boolean), (cG, .array .int)] [(row, .inl (cI, 32, .inl row_f)), (ME, .inr (3, oX3 FL aME ME_oldest ME_done ME_undone)), (FL, .inr (0, oX0 PL aFL FL_parting)), (PL, .inr (5, oX5 FO aPL PL_rooms PL_doors PL_things PL_draw PL_drawTold)), (FO, .inr (1, oX1 aFO FO_size FO_units FO_told)), ((aPL 11), .inl (cI, 6, .inl PL_us)), ((aPL 12), .inl (cI, 6, .inl PL_them)), ((aFL 2), .inl (cI, 64, .inl FL_far)), ((aFO 2), .inl (cI, 5, .inl FO_known)), ((aFO 0), .inl (cI, 400, .inl FO_steps)), ((aFO 1), .inl (cI, 61, .inl FO_stack))] sz [] [.ref ME, .ref row]) (va_Qi (fun (r : Int32) (_ : Unit) => zB r 0 63) (fun (_ : Unit) (t : State) => ∃ (nrowf : Nat → Int32), ∃ (nFOknown : Nat → Int32), ∃ (nFOstack : Nat → Int32), zA nrowf 0 12 0 7 ∧ xB D (va_A [(row, .inl (cI, 32, .inl row_f)), (ME, .inr (3, oX3 FL aME ME_oldest ME_done ME_undone)), (FL, .inr (0, oX0 PL aFL FL_parting)), (PL, .inr (5, oX5 FO aPL PL_rooms PL_doors PL_things PL_draw PL_drawTold)), (FO, .inr (1, oX1 aFO FO_size FO_units FO_told)), ((aPL 11), .inl (cI, 6, .inl PL_us)), ((aPL 12), .inl (cI, 6, .inl PL_them)), ((aFL 2), .inl (cI, 64, .inl FL_far)), ((aFO 2), .inl (cI, 5, .inl FO_known)), ((aFO 0), .inl (cI, 400, .inl FO_steps)), ((aFO 1), .inl (cI, 61, .inl FO_stack))] sz) [(row, .inl (cI, 32, .inl nrowf)), (ME, .inr (3, oX3 FL aME ME_oldest ME_done ME_undone)), (FL, .inr (0, oX0 PL aFL FL_parting)), (PL, .inr (5, oX5 FO aPL PL_rooms PL_doors PL_things PL_draw PL_drawTold)), (FO, .inr (1, oX1 aFO FO_size FO_units FO_told)), ((aPL 11), .inl (cI, 6, .inl PL_us)), ((aPL 12), .inl (cI, 6, .inl PL_them)), ((aFL 2), .inl (cI, 64, .inl FL_far)), ((aFO 2), .inl (cI, 5, .inl nFOknown)), ((aFO 0), .inl (cI, 400, .inl FO_steps)), ((aFO 1), .inl (cI, 61, .inl nFOstack))] t) (va_A [(row, .inl (cI, 32, .inl row_f)), (ME, .inr (3, oX3 FL aME ME_oldest ME_done ME_undone)), (FL, .inr (0, oX0 PL aFL FL_parting)), (PL, .inr (5, oX5 FO aPL PL_rooms PL_doors PL_things PL_draw PL_drawTold)), (FO, .inr (1, oX1 aFO FO_size FO_units FO_told)), ((aPL 11), .inl (cI, 6, .inl PL_us)), ((aPL 12), .inl (cI, 6, .inl PL_them)), ((aFL 2), .inl (cI, 64, .inl FL_far)), ((aFO 2), .inl (cI, 5, .inl FO_known)), ((aFO 0), .inl (cI, 400, .inl FO_steps)), ((aFO 1), .inl (cI, 61, .inl FO_stack))] sz)) 0 0 (va_A [(row, .inl (cI, 32, .inl row_f)), (ME, .inr (3, oX3 FL aME ME_oldest ME_done ME_undone)), (FL, .inr (0, oX0 PL aFL FL_parting)), (PL, .inr (5, oX5 FO aPL PL_rooms PL_doors PL_things PL_draw PL_drawTold)), (FO, .inr (1, oX1 aFO FO_size FO_units FO_told)), ((aPL 11), .inl (cI, 6, .inl PL_us)), ((aPL 12), .inl (cI, 6, .inl PL_them)), ((aFL 2), .inl (cI, 64, .inl FL_far)), ((aFO 2), .inl (cI, 5, .inl FO_known)), ((aFO 0), .inl (cI, 400, .inl FO_steps)), ((aFO 1), .inl (cI, 61, .inl FO_stack))] sz) := by
  refine Met.ofW (cc := cX3_passDay) (maxL := 5) (ret := (some .int)) (by decide) rfl ?_
  intro p e s m args below meth c s₁ B hml hv
  obtain ⟨rfl, hsz, hP, hK, hD0, hNw⟩ := hv
  have hx := B.exec
  have hb := B.bytes
  have hr := B.returns
  have hts := atoms_spec (ws := wsX3_passDay) B.pre
  have hown : s.vm.findClass RX3 = some m.cls := findClass_of_methodNamed B.named
  have hlocks := B.notSynchronized
  clear B
  subst hsz
  have hD := hD0.self (sz := s.heap.size)
  clear hD0 hNw
  generalize hAe : va_A [(row, .inl (cI, 32, .inl row_f)), (ME, .inr (3, oX3 FL aME ME_oldest ME_done ME_undone)), (FL, .inr (0, oX0 PL aFL FL_parting)), (PL, .inr (5, oX5 FO aPL PL_rooms PL_doors PL_things PL_draw PL_drawTold)), (FO, .inr (1, oX1 aFO FO_size FO_units FO_told)), ((aPL 11), .inl (cI, 6, .inl PL_us)), ((aPL 12), .inl (cI, 6, .inl PL_them)), ((aFL 2), .inl (cI, 64, .inl FL_far)), ((aFO 2), .inl (cI, 5, .inl FO_known)), ((aFO 0), .inl (cI, 400, .inl FO_steps)), ((aFO 1), .inl (cI, 61, .inl FO_stack))] s.heap.size = A at hD ⊢
  have hA : ∀ q : Nat, s.heap.size ≤ q → A q := fun q h => by rw [← hAe]; exact Or.inr h
  have hS : va_S A s.heap s.heap [] := va_S.rf
  clear hAe
  obtain ⟨H, hH⟩ : ∃ H : Heap, H = s.heap := ⟨_, rfl⟩
  obtain ⟨locs, hlocs⟩ : ∃ L : List Loc, L = [] := ⟨_, rfl⟩
  replace hP : va_P D classes [(row, .inl (cI, 32, .inl row_f)), (ME, .inr (3, oX3 FL aME ME_oldest ME_done ME_undone)), (FL, .inr (0, oX0 PL aFL FL_parting)), (PL, .inr (5, oX5 FO aPL PL_rooms PL_doors PL_things PL_draw PL_drawTold)), (FO, .inr (1, oX1 aFO FO_size FO_units FO_told)), ((aPL 11), .inl (cI, 6, .inl PL_us)), ((aPL 12), .inl (cI, 6, .inl PL_them)), ((aFL 2), .inl (cI, 64, .inl FL_far)), ((aFO 2), .inl (cI, 5, .inl FO_known)), ((aFO 0), .inl (cI, 400, .inl FO_steps)), ((aFO 1), .inl (cI, 61, .inl FO_stack))] H := by rw [hH]; exact hP
  replace hS : va_S A s.heap H locs := by rw [hH, hlocs]; exact hS
  rw [← hH, ← hlocs]
  clear hlocs hH
  have hl := lv_entry ([.ref ME, .ref row]) (n := 5) (Nat.le_of_ble_eq_true rfl)
  rw [lg_entry_eq]
  generalize (lg_sl ([.ref ME, .ref row]) ++ List.replicate (5 - (lg_sl ([.ref ME, .ref row])).length) Slot.unset).toArray = ls at hl ⊢
  replace hl : lv_has ls 5 [(0, .ref ME), (1, .ref row)] := hl
  refine zz_abs (R := ({ frames := 3, cells := 0, slots := 0, locals := 69 } : Room)) (fun Q up => ?_)
  refine lv_iconst (v := 0) hx hb dX3_passDay_0 (by decide) ?_
  refine lv_istore_n (lv' := [(2, .int 0), (0, .ref ME), (1, .ref row)]) hx hb dX3_passDay_1 rfl hl (by decide) rfl (fun ls hl => ?_)
  refine lv_iconst (v := 1) hx hb dX3_passDay_2 (by decide) ?_
  refine lv_aload_n hx hb dX3_passDay_3 rfl (lv_at hl 1 rfl) ?_
  refine va_get (D := D) (ci := 3) (v := .ref FL) (C := RX3) (T := TX3) (N := 9) hx hb hts iw_X3_passDay_X3 hown hK hP 1 rfl rfl 0 (by decide) (hts (.fieldLink RX3 30 "SoldHouse$Memory" "floor" "LSoldHouse$Floor;") (List.mem_of_getElem? (i := 1) rfl)) (fun _ h9 => h9) rfl dX3_passDay_4 ?_
  refine va_get (D := D) (ci := 0) (v := .ref PL) (C := RX0) (T := TX0) (N := 5) hx hb hts iw_X3_passDay_X0 hown hK hP 2 rfl rfl 0 (by decide) (hts (.fieldLink RX3 34 "SoldHouse$Floor" "plan" "LSoldHouse$Plan;") (List.mem_of_getElem? (i := 2) rfl)) (fun _ h9 => h9) rfl dX3_passDay_7 ?_
  refine va_get (D := D) (ci := 5) (v := .int PL_rooms) (C := RX5) (T := TX5) (N := 16) hx hb hts iw_X3_passDay_X5 hown hK hP 3 rfl rfl 0 (by decide) (hts (.fieldLink RX3 105 "SoldHouse$Plan" "rooms" "I") (List.mem_of_getElem? (i := 3) rfl)) (fun _ h9 => h9) rfl dX3_passDay_10 ?_
  refine va_mmax hx hb (by rw [hml]; exact hl.1.symm) hown (hts (.methodLink RX3 102 Lib.Math.max.name) (List.mem_of_getElem? (i := 4) rfl)) (hts (.static Lib.Math.max.name) (List.mem_of_getElem? (i := 5) rfl)) (hts (.initialized "java/lang/Math") (List.mem_of_getElem? (i := 6) rfl)) (hts (.code Lib.Math.max.name Lib.Math.max.code 2 (some .int)) (List.mem_of_getElem? (i := 7) rfl)) (Nat.le_of_ble_eq_true rfl) (Nat.le_of_ble_eq_true rfl) (Nat.le_of_ble_eq_true rfl) (Nat.le_of_ble_eq_true rfl) dX3_passDay_13 ?_
  refine zi_top (a := 1) (b := 8) (zB_max (show zB 1 1 1 from ⟨by decide, by decide⟩) b_PL_rooms (by decide) (by decide)) (fun y13 by13 => ?_)
  refine lv_istore_n (lv' := [(3, .int y13), (2, .int 0), (0, .ref ME), (1, .ref row)]) hx hb dX3_passDay_16 rfl hl (by decide) rfl (fun ls hl => ?_)
  refine lv_iconst (v := 0) hx hb dX3_passDay_17 (by decide) ?_
  have j20 : ∀ (n20 : Nat) (H : Heap) (locs : List Loc) (ls : Array Slot) (v20_4 : Int32) (v20_2 : Int32) (g20_row : Nat → Int32) (g20_aFO2 : Nat → Int32) (g20_aFO1 : Nat → Int32), zB v20_4 0 6 → zB v20_2 0 63 → zA g20_row 0 12 0 7 → zA FL_far 0 64 (-1) 7 → (6 + 1 - v20_4.toInt) ≤ (n20 : Int) → va_P D classes [(row, .inl (cI, 32, .inl g20_row)), (ME, .inr (3, oX3 FL aME ME_oldest ME_done ME_undone)), (FL, .inr (0, oX0 PL aFL FL_parting)), (PL, .inr (5, oX5 FO aPL PL_rooms PL_doors PL_things PL_draw PL_drawTold)), (FO, .inr (1, oX1 aFO FO_size FO_units FO_told)), ((aPL 11), .inl (cI, 6, .inl PL_us)), ((aPL 12), .inl (cI, 6, .inl PL_them)), ((aFL 2), .inl (cI, 64, .inl FL_far)), ((aFO 2), .inl (cI, 5, .inl g20_aFO2)), ((aFO 0), .inl (cI, 400, .inl FO_steps)), ((aFO 1), .inl (cI, 61, .inl g20_aFO1))] H → va_D A [(row, .inl (cI, 32, .inl g20_row)), (ME, .inr (3, oX3 FL aME ME_oldest ME_done ME_undone)), (FL, .inr (0, oX0 PL aFL FL_parting)), (PL, .inr (5, oX5 FO aPL PL_rooms PL_doors PL_things PL_draw PL_drawTold)), (FO, .inr (1, oX1 aFO FO_size FO_units FO_told)), ((aPL 11), .inl (cI, 6, .inl PL_us)), ((aPL 12), .inl (cI, 6, .inl PL_them)), ((aFL 2), .inl (cI, 64, .inl FL_far)), ((aFO 2), .inl (cI, 5, .inl g20_aFO2)), ((aFO 0), .inl (cI, 400, .inl FO_steps)), ((aFO 1), .inl (cI, 61, .inl g20_aFO1))] → va_S A s.heap H locs → lv_has ls 5 [(4, .int v20_4), (3, .int y13), (2, .int v20_2), (0, .ref ME), (1, .ref row)] → W p l e ({ frames := 3, cells := 0, slots := 0, locals := 69 } : Room) s m ([.ref ME, .ref row] : List Value).toArray below meth c H locs 0 0 Q (F0 m 20 ls []) := by
    intro n20
    induction n20 with
    | zero => intro H locs ls v20_4 v20_2 g20_row g20_aFO2 g20_aFO1 bv20_4_k20 bv20_2_k20 sg20_row_0_k20 sFL_far_0_k20 hm20 hP hD hS hl; exact zM_u0 bv20_4_k20 hm20
    | succ n20 ih20 =>
      intro H locs ls v20_4 v20_2 g20_row g20_aFO2 g20_aFO1 bv20_4_k20 bv20_2_k20 sg20_row_0_k20 sFL_far_0_k20 hm20 hP hD hS hl
      refine lv_iload hx hb dX3_passDay_20 (lv_at hl 0 rfl) ?_
      refine lv_aload_n hx hb dX3_passDay_22 rfl (lv_at hl 3 rfl) ?_
      refine va_get (D := D) (ci := 3) (v := .ref FL) (C := RX3) (T := TX3) (N := 9) hx hb hts iw_X3_passDay_X3 hown hK hP 1 rfl rfl 0 (by decide) (hts (.fieldLink RX3 30 "SoldHouse$Memory" "floor" "LSoldHouse$Floor;") (List.mem_of_getElem? (i := 1) rfl)) (fun _ h9 => h9) rfl dX3_passDay_23 ?_
      refine va_get (D := D) (ci := 0) (v := .ref PL) (C := RX0) (T := TX0) (N := 5) hx hb hts iw_X3_passDay_X0 hown hK hP 2 rfl rfl 0 (by decide) (hts (.fieldLink RX3 34 "SoldHouse$Floor" "plan" "LSoldHouse$Plan;") (List.mem_of_getElem? (i := 2) rfl)) (fun _ h9 => h9) rfl dX3_passDay_26 ?_
      refine va_get (D := D) (ci := 5) (v := .int PL_things) (C := RX5) (T := TX5) (N := 16) hx hb hts iw_X3_passDay_X5 hown hK hP 3 rfl rfl 6 (by decide) (hts (.fieldLink RX3 40 "SoldHouse$Plan" "things" "I") (List.mem_of_getElem? (i := 8) rfl)) (fun _ h9 => h9) rfl dX3_passDay_29 ?_
      refine lv_icmp_ge (tgt := 106) hx hb dX3_passDay_32 (by decide) (fun c32 => ?_) (fun c32 => ?_)
      · refine lv_aload_n hx hb dX3_passDay_106 rfl (lv_at hl 4 rfl) ?_
        refine lv_bipush (v := 30) hx hb dX3_passDay_107 (by decide) ?_
        refine lv_dup2_11 hx hb dX3_passDay_109 rfl rfl ?_
        refine va_iald hx hb hK hP 0 0 rfl rfl (zB_in (show zB 30 30 30 from ⟨by decide, by decide⟩) (by decide) (by decide)) dX3_passDay_110 ?_
        refine lv_topi (fun y110 _ => ?_)
        refine lv_iconst (v := 1) hx hb dX3_passDay_111 (by decide) ?_
        refine lv_iadd hx hb dX3_passDay_112 ?_
        refine lv_topi (fun y112 _ => ?_)
        refine zi_iast hx hb hK hP hD hS 0 0 rfl rfl (zB_in (show zB 30 30 30 from ⟨by decide, by decide⟩) (by decide) (by decide)) dX3_passDay_113 (fun H locs g113 eg113 hP hD hS => ?_)
        replace hP : va_P D classes [(row, .inl (cI, 32, .inl g113)), (ME, .inr (3, oX3 FL aME ME_oldest ME_done ME_undone)), (FL, .inr (0, oX0 PL aFL FL_parting)), (PL, .inr (5, oX5 FO aPL PL_rooms PL_doors PL_things PL_draw PL_drawTold)), (FO, .inr (1, oX1 aFO FO_size FO_units FO_told)), ((aPL 11), .inl (cI, 6, .inl PL_us)), ((aPL 12), .inl (cI, 6, .inl PL_them)), ((aFL 2), .inl (cI, 64, .inl FL_far)), ((aFO 2), .inl (cI, 5, .inl g20_aFO2)), ((aFO 0), .inl (cI, 400, .inl FO_steps)), ((aFO 1), .inl (cI, 61, .inl g20_aFO1))] H := hP
        replace hD : va_D A [(row, .inl (cI, 32, .inl g113)), (ME, .inr (3, oX3 FL aME ME_oldest ME_done ME_undone)), (FL, .inr (0, oX0 PL aFL FL_parting)), (PL, .inr (5, oX5 FO aPL PL_rooms PL_doors PL_things PL_draw PL_drawTold)), (FO, .inr (1, oX1 aFO FO_size FO_units FO_told)), ((aPL 11), .inl (cI, 6, .inl PL_us)), ((aPL 12), .inl (cI, 6, .inl PL_them)), ((aFL 2), .inl (cI, 64, .inl FL_far)), ((aFO 2), .inl (cI, 5, .inl g20_aFO2)), ((aFO 0), .inl (cI, 400, .inl FO_steps)), ((aFO 1), .inl (cI, 61, .inl g20_aFO1))] := hD
        have sg113_0 := zA_un eg113 sg20_row_0_k20 (show zB 30 30 30 from ⟨by decide, by decide⟩) (by decide) (by decide)
        clear eg113
        refine lv_iload_n hx hb dX3_passDay_114 rfl (lv_at hl 2 rfl) ?_
        exact up _ _ _ (W.iret (v := v20_2) hx hb hr (fun t ht hW => ⟨⟨v20_2, (), rfl, bv20_2_k20, ⟨g113, g20_aFO2, g20_aFO1, sg113_0, by rw [ht]; exact hP, hD⟩⟩, hS.F ht⟩) hS.2.2 dX3_passDay_115)
      · have bx32f_v20_4 : zB v20_4 0 5 := zB_ltu (zf c32) bv20_4_k20 b_PL_things (by decide)
        have by32f_PL_things : zB PL_things 1 6 := zB_ltv (zf c32) bx32f_v20_4 b_PL_things (by decide)
        refine lv_aload_n hx hb dX3_passDay_35 rfl (lv_at hl 4 rfl) ?_
        refine lv_bipush (v := 31) hx hb dX3_passDay_36 (by decide) ?_
        refine lv_aload_n hx hb dX3_passDay_38 rfl (lv_at hl 4 rfl) ?_
        refine lv_bipush (v := 31) hx hb dX3_passDay_39 (by decide) ?_
        refine va_iald hx hb hK hP 0 0 rfl rfl (zB_in (show zB 31 31 31 from ⟨by decide, by decide⟩) (by decide) (by decide)) dX3_passDay_41 ?_
        refine lv_topi (fun y41 _ => ?_)
        refine lv_sipush (v := 137) hx hb dX3_passDay_42 (by decide) ?_
        refine lv_imul hx hb dX3_passDay_45 ?_
        refine lv_topi (fun y45 _ => ?_)
        refine lv_bipush (v := 71) hx hb dX3_passDay_46 (by decide) ?_
        refine lv_iadd hx hb dX3_passDay_48 ?_
        refine lv_topi (fun y48 _ => ?_)
        refine lv_sipush (v := 1000) hx hb dX3_passDay_49 (by decide) ?_
        refine lv_irem hx hb dX3_passDay_52 (by decide) ?_
        refine lv_topi (fun y52 _ => ?_)
        refine zi_iast hx hb hK hP hD hS 0 0 rfl rfl (zB_in (show zB 31 31 31 from ⟨by decide, by decide⟩) (by decide) (by decide)) dX3_passDay_53 (fun H locs g53 eg53 hP hD hS => ?_)
        replace hP : va_P D classes [(row, .inl (cI, 32, .inl g53)), (ME, .inr (3, oX3 FL aME ME_oldest ME_done ME_undone)), (FL, .inr (0, oX0 PL aFL FL_parting)), (PL, .inr (5, oX5 FO aPL PL_rooms PL_doors PL_things PL_draw PL_drawTold)), (FO, .inr (1, oX1 aFO FO_size FO_units FO_told)), ((aPL 11), .inl (cI, 6, .inl PL_us)), ((aPL 12), .inl (cI, 6, .inl PL_them)), ((aFL 2), .inl (cI, 64, .inl FL_far)), ((aFO 2), .inl (cI, 5, .inl g20_aFO2)), ((aFO 0), .inl (cI, 400, .inl FO_steps)), ((aFO 1), .inl (cI, 61, .inl g20_aFO1))] H := hP
        replace hD : va_D A [(row, .inl (cI, 32, .inl g53)), (ME, .inr (3, oX3 FL aME ME_oldest ME_done ME_undone)), (FL, .inr (0, oX0 PL aFL FL_parting)), (PL, .inr (5, oX5 FO aPL PL_rooms PL_doors PL_things PL_draw PL_drawTold)), (FO, .inr (1, oX1 aFO FO_size FO_units FO_told)), ((aPL 11), .inl (cI, 6, .inl PL_us)), ((aPL 12), .inl (cI, 6, .inl PL_them)), ((aFL 2), .inl (cI, 64, .inl FL_far)), ((aFO 2), .inl (cI, 5, .inl g20_aFO2)), ((aFO 0), .inl (cI, 400, .inl FO_steps)), ((aFO 1), .inl (cI, 61, .inl g20_aFO1))] := hD
        have sg53_0 := zA_un eg53 sg20_row_0_k20 (show zB 31 31 31 from ⟨by decide, by decide⟩) (by decide) (by decide)
        clear eg53
        refine lv_aload_n hx hb dX3_passDay_54 rfl (lv_at hl 4 rfl) ?_
        refine lv_bipush (v := 31) hx hb dX3_passDay_55 (by decide) ?_
        refine va_iald hx hb hK hP 0 0 rfl rfl (zB_in (show zB 31 31 31 from ⟨by decide, by decide⟩) (by decide) (by decide)) dX3_passDay_57 ?_
        refine lv_topi (fun y57 _ => ?_)
        refine lv_bipush (v := 100) hx hb dX3_passDay_58 (by decide) ?_
        refine lv_irem hx hb dX3_passDay_60 (by decide) ?_
        refine lv_topi (fun y60 _ => ?_)
        refine lv_aload_n hx hb dX3_passDay_61 rfl (lv_at hl 3 rfl) ?_
        refine lv_aload_n hx hb dX3_passDay_62 rfl (lv_at hl 4 rfl) ?_
        refine lv_iload hx hb dX3_passDay_63 (lv_at hl 0 rfl) ?_
        refine lv_aload_n hx hb dX3_passDay_65 rfl (lv_at hl 4 rfl) ?_
        refine lv_bipush (v := 30) hx hb dX3_passDay_66 (by decide) ?_
        refine va_iald hx hb hK hP 0 0 rfl rfl (zB_in (show zB 30 30 30 from ⟨by decide, by decide⟩) (by decide) (by decide)) dX3_passDay_68 ?_
        refine lv_topi (fun y68 _ => ?_)
        have hPc := hP.sub (ws' := [(row, .inl (cI, 32, .inl g53)), (ME, .inr (3, oX3 FL aME ME_oldest ME_done ME_undone)), (FL, .inr (0, oX0 PL aFL FL_parting)), (PL, .inr (5, oX5 FO aPL PL_rooms PL_doors PL_things PL_draw PL_drawTold)), (FO, .inr (1, oX1 aFO FO_size FO_units FO_told)), ((aPL 11), .inl (cI, 6, .inl PL_us)), ((aPL 12), .inl (cI, 6, .inl PL_them)), ((aFL 2), .inl (cI, 64, .inl FL_far)), ((aFO 2), .inl (cI, 5, .inl g20_aFO2)), ((aFO 0), .inl (cI, 400, .inl FO_steps)), ((aFO 1), .inl (cI, 61, .inl g20_aFO1))]) [0, 1, 2, 3, 4, 5, 6, 7, 8, 9, 10] rfl
        have hDc := hD.sub (ws' := [(row, .inl (cI, 32, .inl g53)), (ME, .inr (3, oX3 FL aME ME_oldest ME_done ME_undone)), (FL, .inr (0, oX0 PL aFL FL_parting)), (PL, .inr (5, oX5 FO aPL PL_rooms PL_doors PL_things PL_draw PL_drawTold)), (FO, .inr (1, oX1 aFO FO_size FO_units FO_told)), ((aPL 11), .inl (cI, 6, .inl PL_us)), ((aPL 12), .inl (cI, 6, .inl PL_them)), ((aFL 2), .inl (cI, 64, .inl FL_far)), ((aFO 2), .inl (cI, 5, .inl g20_aFO2)), ((aFO 0), .inl (cI, 400, .inl FO_steps)), ((aFO 1), .inl (cI, 61, .inl g20_aFO1))]) [0, 1, 2, 3, 4, 5, 6, 7, 8, 9, 10] (by decide) rfl
        have hFc := va_free (wc := [(row, .inl (cI, 32, .inl g53)), (ME, .inr (3, oX3 FL aME ME_oldest ME_done ME_undone)), (FL, .inr (0, oX0 PL aFL FL_parting)), (PL, .inr (5, oX5 FO aPL PL_rooms PL_doors PL_things PL_draw PL_drawTold)), (FO, .inr (1, oX1 aFO FO_size FO_units FO_told)), ((aPL 11), .inl (cI, 6, .inl PL_us)), ((aPL 12), .inl (cI, 6, .inl PL_them)), ((aFL 2), .inl (cI, 64, .inl FL_far)), ((aFO 2), .inl (cI, 5, .inl g20_aFO2)), ((aFO 0), .inl (cI, 400, .inl FO_steps)), ((aFO 1), .inl (cI, 61, .inl g20_aFO1))]) hD hS hA [0, 1, 2, 3, 4, 5, 6, 7, 8, 9, 10] rfl
        refine va_calli (va_runV (As := [.ref row, .int v20_4, .int y68]) (rest := [.int y60]) ⟨hx, hb, hml, hown, hts⟩ (c_X3_sureOf l D cI cB cL cZ cG ME row g53 v20_4 y68 FL aME ME_oldest ME_done ME_undone PL aFL FL_parting PL_rooms aPL PL_doors PL_things FO PL_draw PL_drawTold aFO FO_size FO_units FO_told PL_us PL_them FL_far g20_aFO2 FO_steps g20_aFO1 H.size bx32f_v20_4 b_ME_oldest b_ME_done b_ME_undone b_PL_rooms b_PL_doors (zB_w by32f_PL_things (by decide) (by decide)) b_FO_size sg53_0 sFL_far_0_k20) (cwV 3 hts gX3_passDay_X3_sureOf rfl rfl rfl (by decide +kernel) ⟨Nat.le_of_ble_eq_true rfl, Nat.le_of_ble_eq_true rfl⟩) ⟨xp_blind, va_recv hK hP (ci := 3) (q0 := 1) rfl rfl, fun U hU hW => xp_mk hU hW hPc hK hDc xNw_nil⟩ rfl rfl hl.1 rfl (lv_room (Nat.le_of_ble_eq_true rfl)) dX3_passDay_69 ⟨Nat.le_of_ble_eq_true rfl, Nat.le_of_ble_eq_true rfl⟩) hS (fun q _ h => hFc q h) hFc (fun r69 u9 t9 H1 locs ht9 hvm9 hr69 hB9 hz9 hk9 hS => ?_)
        obtain ⟨o69_nFOknown, o69_nFOstack, hP1, hD1⟩ := hB9
        rw [ht9] at hP1
        obtain ⟨hP, hD⟩ := va_join (wr := []) (w1 := [(row, .inl (cI, 32, .inl g53)), (ME, .inr (3, oX3 FL aME ME_oldest ME_done ME_undone)), (FL, .inr (0, oX0 PL aFL FL_parting)), (PL, .inr (5, oX5 FO aPL PL_rooms PL_doors PL_things PL_draw PL_drawTold)), (FO, .inr (1, oX1 aFO FO_size FO_units FO_told)), ((aPL 11), .inl (cI, 6, .inl PL_us)), ((aPL 12), .inl (cI, 6, .inl PL_them)), ((aFL 2), .inl (cI, 64, .inl FL_far)), ((aFO 2), .inl (cI, 5, .inl o69_nFOknown)), ((aFO 0), .inl (cI, 400, .inl FO_steps)), ((aFO 1), .inl (cI, 61, .inl o69_nFOstack))]) hP hD [0, 1, 2, 3, 4, 5, 6, 7, 8, 9, 10] [] rfl rfl (by decide) (by decide) hk9 hFc hP1 hD1
        clear hz9 hPc hDc hP1 hD1 hk9 hFc ht9 hvm9 u9 t9
        generalize H1 = H at hP hS ⊢
        replace hP : va_P D classes [(row, .inl (cI, 32, .inl g53)), (ME, .inr (3, oX3 FL aME ME_oldest ME_done ME_undone)), (FL, .inr (0, oX0 PL aFL FL_parting)), (PL, .inr (5, oX5 FO aPL PL_rooms PL_doors PL_things PL_draw PL_drawTold)), (FO, .inr (1, oX1 aFO FO_size FO_units FO_told)), ((aPL 11), .inl (cI, 6, .inl PL_us)), ((aPL 12), .inl (cI, 6, .inl PL_them)), ((aFL 2), .inl (cI, 64, .inl FL_far)), ((aFO 2), .inl (cI, 5, .inl o69_nFOknown)), ((aFO 0), .inl (cI, 400, .inl FO_steps)), ((aFO 1), .inl (cI, 61, .inl o69_nFOstack))] H := hP
        replace hD : va_D A [(row, .inl (cI, 32, .inl g53)), (ME, .inr (3, oX3 FL aME ME_oldest ME_done ME_undone)), (FL, .inr (0, oX0 PL aFL FL_parting)), (PL, .inr (5, oX5 FO aPL PL_rooms PL_doors PL_things PL_draw PL_drawTold)), (FO, .inr (1, oX1 aFO FO_size FO_units FO_told)), ((aPL 11), .inl (cI, 6, .inl PL_us)), ((aPL 12), .inl (cI, 6, .inl PL_them)), ((aFL 2), .inl (cI, 64, .inl FL_far)), ((aFO 2), .inl (cI, 5, .inl o69_nFOknown)), ((aFO 0), .inl (cI, 400, .inl FO_steps)), ((aFO 1), .inl (cI, 61, .inl o69_nFOstack))] := hD
        have j100 : ∀ (H : Heap) (locs : List Loc) (ls : Array Slot) (v100_2 : Int32) (g100_row : Nat → Int32), zB v100_2 0 63 → zA g100_row 0 12 0 7 → zA FL_far 0 64 (-1) 7 → va_P D classes [(row, .inl (cI, 32, .inl g100_row)), (ME, .inr (3, oX3 FL aME ME_oldest ME_done ME_undone)), (FL, .inr (0, oX0 PL aFL FL_parting)), (PL, .inr (5, oX5 FO aPL PL_rooms PL_doors PL_things PL_draw PL_drawTold)), (FO, .inr (1, oX1 aFO FO_size FO_units FO_told)), ((aPL 11), .inl (cI, 6, .inl PL_us)), ((aPL 12), .inl (cI, 6, .inl PL_them)), ((aFL 2), .inl (cI, 64, .inl FL_far)), ((aFO 2), .inl (cI, 5, .inl o69_nFOknown)), ((aFO 0), .inl (cI, 400, .inl FO_steps)), ((aFO 1), .inl (cI, 61, .inl o69_nFOstack))] H → va_D A [(row, .inl (cI, 32, .inl g100_row)), (ME, .inr (3, oX3 FL aME ME_oldest ME_done ME_undone)), (FL, .inr (0, oX0 PL aFL FL_parting)), (PL, .inr (5, oX5 FO aPL PL_rooms PL_doors PL_things PL_draw PL_drawTold)), (FO, .inr (1, oX1 aFO FO_size FO_units FO_told)), ((aPL 11), .inl (cI, 6, .inl PL_us)), ((aPL 12), .inl (cI, 6, .inl PL_them)), ((aFL 2), .inl (cI, 64, .inl FL_far)), ((aFO 2), .inl (cI, 5, .inl o69_nFOknown)), ((aFO 0), .inl (cI, 400, .inl FO_steps)), ((aFO 1), .inl (cI, 61, .inl o69_nFOstack))] → va_S A s.heap H locs → lv_has ls 5 [(4, .int v20_4), (3, .int y13), (2, .int v100_2), (0, .ref ME), (1, .ref row)] → W p l e ({ frames := 3, cells := 0, slots := 0, locals := 69 } : Room) s m ([.ref ME, .ref row] : List Value).toArray below meth c H locs 0 0 Q (F0 m 100 ls []) := by
          intro H locs ls v100_2 g100_row bv100_2_k100 sg100_row_0_k100 sFL_far_0_k100 hP hD hS hl
          obtain ⟨y100, by100, ry100, ey100⟩ := zi_inc (x := v20_4) (k := 1) (a := 1) (b := 6) bx32f_v20_4 (by decide) (by decide) (by decide) (by decide) (by decide)
          refine lv_iinc (v := y100) (lv' := [(4, .int y100), (3, .int y13), (2, .int v100_2), (0, .ref ME), (1, .ref row)]) hx hb dX3_passDay_100 hl (k := 0) rfl ey100 (by decide) rfl (fun ls hl => ?_)
          refine lv_goto (tgt := 20) hx hb dX3_passDay_103 (by decide) ?_
          exact ih20 H locs ls y100 v100_2 g100_row o69_nFOknown o69_nFOstack (zB_w by100 (by decide) (by decide)) bv100_2_k100 sg100_row_0_k100 sFL_far_0_k100 (zM_us (k := 1) hm20 ry100 (by decide)) hP hD hS (lv_sub hl [0, 1, 2, 3, 4] rfl)
        refine lv_icmp_lt (tgt := 100) hx hb dX3_passDay_72 (by decide) (fun c72 => ?_) (fun c72 => ?_)
        · have bx72t_y60 : zB y60 (-2147483648) 99 := zB_ltu (zl c72) (zB_top y60) hr69 (by decide)
          exact j100 H locs ls v20_2 g53 bv20_2_k20 sg53_0 sFL_far_0_k20 hP hD hS (lv_sub hl [0, 1, 2, 3, 4] rfl)
        · have by72f_y60 : zB y60 0 2147483647 := zB_lev (zg c72) hr69 (zB_top y60) (by decide)
          refine lv_aload_n hx hb dX3_passDay_75 rfl (lv_at hl 4 rfl) ?_
          refine lv_bipush (v := 6) hx hb dX3_passDay_76 (by decide) ?_
          refine lv_iload hx hb dX3_passDay_78 (lv_at hl 0 rfl) ?_
          refine lv_iadd hx hb dX3_passDay_80 ?_
          refine zi_top (a := 6) (b := 11) (zB_add (show zB 6 6 6 from ⟨by decide, by decide⟩) bx32f_v20_4 (by decide) (by decide) (by decide) (by decide)) (fun y80 by80 => ?_)
          refine lv_aload_n hx hb dX3_passDay_81 rfl (lv_at hl 4 rfl) ?_
          refine lv_bipush (v := 6) hx hb dX3_passDay_82 (by decide) ?_
          refine lv_iload hx hb dX3_passDay_84 (lv_at hl 0 rfl) ?_
          refine lv_iadd hx hb dX3_passDay_86 ?_
          refine zi_top (a := 6) (b := 11) (zB_add (show zB 6 6 6 from ⟨by decide, by decide⟩) bx32f_v20_4 (by decide) (by decide) (by decide) (by decide)) (fun y86 by86 => ?_)
          refine va_iald hx hb hK hP 0 0 rfl rfl (zB_in by86 (by decide) (by decide)) dX3_passDay_87 ?_
          refine zi_top (a := 0) (b := 7) (zA_at sg53_0 by86 (by decide) (by decide)) (fun y87 by87 => ?_)
          refine lv_iconst (v := 1) hx hb dX3_passDay_88 (by decide) ?_
          refine lv_iadd hx hb dX3_passDay_89 ?_
          refine zi_top2 (P := fun y => y.toInt = y87.toInt + 1) (a := 1) (b := 8) (zB_add by87 (show zB 1 1 1 from ⟨by decide, by decide⟩) (by decide) (by decide) (by decide) (by decide)) (zR_addc by87 (by decide) (by decide) (by decide)) (fun y89 by89 ry89 => ?_)
          refine lv_iload_n hx hb dX3_passDay_90 rfl (lv_at hl 1 rfl) ?_
          refine lv_irem hx hb dX3_passDay_91 (zB_nz by13 (by decide)) ?_
          refine zi_top (a := 0) (b := 7) (zB_rem by89 by13 (by decide) (by decide) (by decide)) (fun y91 by91 => ?_)
          refine zi_iast hx hb hK hP hD hS 0 0 rfl rfl (zB_in by80 (by decide) (by decide)) dX3_passDay_92 (fun H locs g92 eg92 hP hD hS => ?_)
          replace hP : va_P D classes [(row, .inl (cI, 32, .inl g92)), (ME, .inr (3, oX3 FL aME ME_oldest ME_done ME_undone)), (FL, .inr (0, oX0 PL aFL FL_parting)), (PL, .inr (5, oX5 FO aPL PL_rooms PL_doors PL_things PL_draw PL_drawTold)), (FO, .inr (1, oX1 aFO FO_size FO_units FO_told)), ((aPL 11), .inl (cI, 6, .inl PL_us)), ((aPL 12), .inl (cI, 6, .inl PL_them)), ((aFL 2), .inl (cI, 64, .inl FL_far)), ((aFO 2), .inl (cI, 5, .inl o69_nFOknown)), ((aFO 0), .inl (cI, 400, .inl FO_steps)), ((aFO 1), .inl (cI, 61, .inl o69_nFOstack))] H := hP
          replace hD : va_D A [(row, .inl (cI, 32, .inl g92)), (ME, .inr (3, oX3 FL aME ME_oldest ME_done ME_undone)), (FL, .inr (0, oX0 PL aFL FL_parting)), (PL, .inr (5, oX5 FO aPL PL_rooms PL_doors PL_things PL_draw PL_drawTold)), (FO, .inr (1, oX1 aFO FO_size FO_units FO_told)), ((aPL 11), .inl (cI, 6, .inl PL_us)), ((aPL 12), .inl (cI, 6, .inl PL_them)), ((aFL 2), .inl (cI, 64, .inl FL_far)), ((aFO 2), .inl (cI, 5, .inl o69_nFOknown)), ((aFO 0), .inl (cI, 400, .inl FO_steps)), ((aFO 1), .inl (cI, 61, .inl o69_nFOstack))] := hD
          have sg92_0 := zA_up eg92 sg53_0 by91 (by decide) (by decide)
          clear eg92
          refine lv_iload_n hx hb dX3_passDay_93 rfl (lv_at hl 2 rfl) ?_
          refine lv_iconst (v := 1) hx hb dX3_passDay_94 (by decide) ?_
          refine lv_iload hx hb dX3_passDay_95 (lv_at hl 0 rfl) ?_
          refine lv_ishl hx hb dX3_passDay_97 ?_
          refine zi_top (a := 1) (b := 32) (zB_shl1 bx32f_v20_4 (by decide) (by decide) (by decide) (by decide)) (fun y97 by97 => ?_)
          refine lv_ior hx hb dX3_passDay_98 ?_
          refine zi_top (a := 1) (b := 63) (zB_or 6 bv20_2_k20 by97 (by decide) (by decide) (by decide) (by decide) (by decide) (by decide) (by decide)) (fun y98 by98 => ?_)
          refine lv_istore_n (lv' := [(2, .int y98), (4, .int v20_4), (3, .int y13), (0, .ref ME), (1, .ref row)]) hx hb dX3_passDay_99 rfl hl (by decide) rfl (fun ls hl => ?_)
          exact j100 H locs ls y98 g92 (zB_w by98 (by decide) (by decide)) sg92_0 sFL_far_0_k20 hP hD hS (lv_sub hl [1, 2, 0, 3, 4] rfl)
  refine lv_istore (lv' := [(4, .int 0), (3, .int y13), (2, .int 0), (0, .ref ME), (1, .ref row)]) hx hb dX3_passDay_18 hl (by decide) rfl (fun ls hl => ?_)
  exact j20 7 H locs ls 0 0 row_f FO_known FO_stack (zB_w (show zB 0 0 0 from ⟨by decide, by decide⟩) (by decide) (by decide)) (zB_w (show zB 0 0 0 from ⟨by decide, by decide⟩) (by decide) (by decide)) s_row_f_0 s_FL_far_0 (zM_ui (show zB 0 0 0 from ⟨by decide, by decide⟩) (by decide)) hP hD hS (lv_sub hl [0, 1, 2, 3, 4] rfl)
set_option maxHeartbeats 4000000 in
set_option maxRecDepth 100000 in
theorem c_X3_mostMended (l : Launch) (D : va_G) (cI : ClassId) (cB : ClassId) (cL : ClassId) (cZ : ClassId) (cG : ClassId) (ME : Nat) (x0 : Int32) (FL : Nat) (aME : Nat → Nat) (ME_oldest : Int32) (ME_done : Int32) (ME_undone : Int32) (PL : Nat) (aFL : Nat → Nat) (FL_parting : Int32) (PL_rooms : Int32) (aPL : Nat → Nat) (PL_doors : Int32) (PL_things : Int32) (FO : Nat) (PL_draw : Int32) (PL_drawTold : Int32) (ME_now : Nat → Int32) (FL_far : Nat → Int32) (b_ME_oldest : zB ME_oldest 0 40) (b_ME_done : zB ME_done 0 40) (b_ME_undone : zB ME_undone 0 40) (b_PL_rooms : zB PL_rooms 0 8) (b_PL_doors : zB PL_doors 0 12) (b_PL_things : zB PL_things 0 6) (s_ME_now_0 : zA ME_now 0 12 0 7) (s_FL_far_0 : zA FL_far 0 64 (-1) 7) : Met l yX3_mostMended wsX3_mostMended ({ frames := 2, cells := 0, slots := 0, locals := 45 }) (xr D [(cI, .int), (cB, .byte), (cL, .long), (cZ, .boolean), (cG, .array .int)] [(ME, .inr (3, oX3 FL aME ME_oldest ME_done ME_undone)), (FL, .inr (0, oX0 PL aFL FL_parting)), (PL, .inr (5, oX5 FO aPL PL_rooms PL_doors PL_things PL_draw PL_drawTold)), ((aME 1), .inl (cI, 32, .inl ME_now)), ((aFL 2), .inl (cI, 64, .inl FL_far))] [.ref ME, .int x0]) (vp_Si (fun r => True)) 0 0 (fun _ => False) := by
  refine Met.ofW (cc := cX3_mostMended) (maxL := 6) (ret := (some .int)) (by decide) rfl ?_
  intro p e s m args below meth c s₁ B hml hv
  obtain ⟨rfl, hP, hK⟩ := hv
  have hx := B.exec
  have hb := B.bytes
  have hr := B.returns
  have hts := atoms_spec (ws := wsX3_mostMended) B.pre
  have hown : s.vm.findClass RX3 = some m.cls := findClass_of_methodNamed B.named
  have hlocks := B.notSynchronized
  clear B
  have hl := lv_entry ([.ref ME, .int x0]) (n := 6) (Nat.le_of_ble_eq_true rfl)
  rw [lg_entry_eq]
  generalize (lg_sl ([.ref ME, .int x0]) ++ List.replicate (6 - (lg_sl ([.ref ME, .int x0])).length) Slot.unset).toArray = ls at hl ⊢
  replace hl : lv_has ls 6 [(0, .ref ME), (1, .int x0)] := hl
  refine zz_abs (R := ({ frames := 2, cells := 0, slots := 0, locals := 45 } : Room)) (fun Q up => ?_)
  refine lv_iload_n hx hb dX3_mostMended_0 rfl (lv_at hl 1 rfl) ?_
  refine lv_istore_n (lv' := [(2, .int x0), (0, .ref ME), (1, .int x0)]) hx hb dX3_mostMended_1 rfl hl (by decide) rfl (fun ls hl => ?_)
  refine lv_iconst (v := 0) hx hb dX3_mostMended_2 (by decide) ?_
  refine lv_istore_n (lv' := [(3, .int 0), (2, .int x0), (0, .ref ME), (1, .int x0)]) hx hb dX3_mostMended_3 rfl hl (by decide) rfl (fun ls hl => ?_)
  refine lv_iconst (v := 0) hx hb dX3_mostMended_4 (by decide) ?_
  have j7 : ∀ (n7 : Nat) (ls : Array Slot) (v7_4 : Int32) (v7_3 : Int32) (v7_2 : Int32), zB v7_4 0 8 → zA ME_now 0 12 0 7 → zA FL_far 0 64 (-1) 7 → (8 + 1 - v7_4.toInt) ≤ (n7 : Int) → lv_has ls 6 [(4, .int v7_4), (3, .int v7_3), (2, .int v7_2), (0, .ref ME), (1, .int x0)] → W p l e ({ frames := 2, cells := 0, slots := 0, locals := 45 } : Room) s m ([.ref ME, .int x0] : List Value).toArray below meth c s.heap [] 0 0 Q (F0 m 7 ls []) := by
    intro n7
    induction n7 with
    | zero => intro ls v7_4 v7_3 v7_2 bv7_4_k7 sME_now_0_k7 sFL_far_0_k7 hm7 hl; exact zM_u0 bv7_4_k7 hm7
    | succ n7 ih7 =>
      intro ls v7_4 v7_3 v7_2 bv7_4_k7 sME_now_0_k7 sFL_far_0_k7 hm7 hl
      refine lv_iload hx hb dX3_mostMended_7 (lv_at hl 0 rfl) ?_
      refine lv_bipush (v := 8) hx hb dX3_mostMended_9 (by decide) ?_
      refine lv_icmp_ge (tgt := 73) hx hb dX3_mostMended_11 (by decide) (fun c11 => ?_) (fun c11 => ?_)
      · have by11t_v7_4 : zB v7_4 8 8 := zB_lev (ze c11) (show zB 8 8 8 from ⟨by decide, by decide⟩) bv7_4_k7 (by decide)
        refine lv_iload_n hx hb dX3_mostMended_73 rfl (lv_at hl 1 rfl) ?_
        exact up _ _ _ (W.iret (v := v7_3) hx hb hr (fun t ht hW => ⟨v7_3, rfl, trivial, ht⟩) (fun q hq => by cases hq) dX3_mostMended_74)
      · have bx11f_v7_4 : zB v7_4 0 7 := zB_ltu (zf c11) bv7_4_k7 (show zB 8 8 8 from ⟨by decide, by decide⟩) (by decide)
        refine lv_iconst (v := 0) hx hb dX3_mostMended_14 (by decide) ?_
        have j17 : ∀ (n17 : Nat) (ls : Array Slot) (v17_5 : Int32) (v17_3 : Int32) (v17_2 : Int32), zB v17_5 0 6 → zA ME_now 0 12 0 7 → zA FL_far 0 64 (-1) 7 → (6 + 1 - v17_5.toInt) ≤ (n17 : Int) → lv_has ls 6 [(5, .int v17_5), (4, .int v7_4), (3, .int v17_3), (2, .int v17_2), (0, .ref ME), (1, .int x0)] → W p l e ({ frames := 2, cells := 0, slots := 0, locals := 45 } : Room) s m ([.ref ME, .int x0] : List Value).toArray below meth c s.heap [] 0 0 Q (F0 m 17 ls []) := by
          intro n17
          induction n17 with
          | zero => intro ls v17_5 v17_3 v17_2 bv17_5_k17 sME_now_0_k17 sFL_far_0_k17 hm17 hl; exact zM_u0 bv17_5_k17 hm17
          | succ n17 ih17 =>
            intro ls v17_5 v17_3 v17_2 bv17_5_k17 sME_now_0_k17 sFL_far_0_k17 hm17 hl
            refine lv_iload hx hb dX3_mostMended_17 (lv_at hl 0 rfl) ?_
            refine lv_aload_n hx hb dX3_mostMended_19 rfl (lv_at hl 4 rfl) ?_
            refine va_get (D := D) (ci := 3) (v := .ref FL) (C := RX3) (T := TX3) (N := 9) hx hb hts iw_X3_mostMended_X3 hown hK hP 0 rfl rfl 0 (by decide) (hts (.fieldLink RX3 30 "SoldHouse$Memory" "floor" "LSoldHouse$Floor;") (List.mem_of_getElem? (i := 1) rfl)) (fun _ h9 => h9) rfl dX3_mostMended_20 ?_
            refine va_get (D := D) (ci := 0) (v := .ref PL) (C := RX0) (T := TX0) (N := 5) hx hb hts iw_X3_mostMended_X0 hown hK hP 1 rfl rfl 0 (by decide) (hts (.fieldLink RX3 34 "SoldHouse$Floor" "plan" "LSoldHouse$Plan;") (List.mem_of_getElem? (i := 2) rfl)) (fun _ h9 => h9) rfl dX3_mostMended_23 ?_
            refine va_get (D := D) (ci := 5) (v := .int PL_things) (C := RX5) (T := TX5) (N := 16) hx hb hts iw_X3_mostMended_X5 hown hK hP 2 rfl rfl 6 (by decide) (hts (.fieldLink RX3 40 "SoldHouse$Plan" "things" "I") (List.mem_of_getElem? (i := 3) rfl)) (fun _ h9 => h9) rfl dX3_mostMended_26 ?_
            refine lv_icmp_ge (tgt := 67) hx hb dX3_mostMended_29 (by decide) (fun c29 => ?_) (fun c29 => ?_)
            · obtain ⟨y67, by67, ry67, ey67⟩ := zi_inc (x := v7_4) (k := 1) (a := 1) (b := 8) bx11f_v7_4 (by decide) (by decide) (by decide) (by decide) (by decide)
              refine lv_iinc (v := y67) (lv' := [(4, .int y67), (5, .int v17_5), (3, .int v17_3), (2, .int v17_2), (0, .ref ME), (1, .int x0)]) hx hb dX3_mostMended_67 hl (k := 1) rfl ey67 (by decide) rfl (fun ls hl => ?_)
              refine lv_goto (tgt := 7) hx hb dX3_mostMended_70 (by decide) ?_
              exact ih7 ls y67 v17_3 v17_2 (zB_w by67 (by decide) (by decide)) sME_now_0_k17 sFL_far_0_k17 (zM_us (k := 1) hm7 ry67 (by decide)) (lv_sub hl [0, 2, 3, 4, 5] rfl)
            · have bx29f_v17_5 : zB v17_5 0 5 := zB_ltu (zf c29) bv17_5_k17 b_PL_things (by decide)
              have by29f_PL_things : zB PL_things 1 6 := zB_ltv (zf c29) bx29f_v17_5 b_PL_things (by decide)
              refine lv_aload_n hx hb dX3_mostMended_32 rfl (lv_at hl 4 rfl) ?_
              refine lv_aload_n hx hb dX3_mostMended_33 rfl (lv_at hl 4 rfl) ?_
              refine va_get (D := D) (ci := 3) (v := .ref (aME 1)) (C := RX3) (T := TX3) (N := 9) hx hb hts iw_X3_mostMended_X3 hown hK hP 0 rfl rfl 1 (by decide) (hts (.fieldLink RX3 11 "SoldHouse$Memory" "now" "[I") (List.mem_of_getElem? (i := 4) rfl)) (fun _ h9 => h9) rfl dX3_mostMended_34 ?_
              refine lv_iload hx hb dX3_mostMended_37 (lv_at hl 0 rfl) ?_
              have hPc := hP.sub (ws' := [((aME 1), .inl (cI, 32, .inl ME_now)), (ME, .inr (3, oX3 FL aME ME_oldest ME_done ME_undone)), (FL, .inr (0, oX0 PL aFL FL_parting)), ((aFL 2), .inl (cI, 64, .inl FL_far))]) [3, 0, 1, 4] rfl
              refine vp_callSi (va_runV (As := [.ref (aME 1), .int v17_5]) (rest := []) ⟨hx, hb, hml, hown, hts⟩ (c_X3_farOff l D cI cB cL cZ cG ME (aME 1) ME_now v17_5 FL aME ME_oldest ME_done ME_undone PL aFL FL_parting FL_far bx29f_v17_5 b_ME_oldest b_ME_done b_ME_undone sME_now_0_k17 sFL_far_0_k17) (cwV 2 hts gX3_mostMended_X3_farOff rfl rfl rfl (by decide +kernel) ⟨Nat.le_of_ble_eq_true rfl, Nat.le_of_ble_eq_true rfl⟩) ⟨xr_blind, va_recv hK hP (ci := 3) (q0 := 0) rfl rfl, fun U hU hW => xr_mk hU hW hPc hK⟩ rfl rfl hl.1 rfl (lv_room (Nat.le_of_ble_eq_true rfl)) dX3_mostMended_39 ⟨Nat.le_of_ble_eq_true rfl, Nat.le_of_ble_eq_true rfl⟩).run (fun r39 hr39 => ?_)
              clear hPc
              refine lv_iload hx hb dX3_mostMended_42 (lv_at hl 1 rfl) ?_
              have j61 : ∀ (ls : Array Slot) (v61_3 : Int32) (v61_2 : Int32), zA ME_now 0 12 0 7 → zA FL_far 0 64 (-1) 7 → lv_has ls 6 [(5, .int v17_5), (4, .int v7_4), (3, .int v61_3), (2, .int v61_2), (0, .ref ME), (1, .int x0)] → W p l e ({ frames := 2, cells := 0, slots := 0, locals := 45 } : Room) s m ([.ref ME, .int x0] : List Value).toArray below meth c s.heap [] 0 0 Q (F0 m 61 ls []) := by
                intro ls v61_3 v61_2 sME_now_0_k61 sFL_far_0_k61 hl
                obtain ⟨y61, by61, ry61, ey61⟩ := zi_inc (x := v17_5) (k := 1) (a := 1) (b := 6) bx29f_v17_5 (by decide) (by decide) (by decide) (by decide) (by decide)
                refine lv_iinc (v := y61) (lv' := [(5, .int y61), (4, .int v7_4), (3, .int v61_3), (2, .int v61_2), (0, .ref ME), (1, .int x0)]) hx hb dX3_mostMended_61 hl (k := 0) rfl ey61 (by decide) rfl (fun ls hl => ?_)
                refine lv_goto (tgt := 17) hx hb dX3_mostMended_64 (by decide) ?_
                exact ih17 ls y61 v61_3 v61_2 (zB_w by61 (by decide) (by decide)) sME_now_0_k61 sFL_far_0_k61 (zM_us (k := 1) hm17 ry61 (by decide)) (lv_sub hl [0, 1, 2, 3, 4, 5] rfl)
              refine lv_icmp_ne (tgt := 61) hx hb dX3_mostMended_44 (by decide) (fun c44 => ?_) (fun c44 => ?_)
              · exact j61 ls v17_3 v17_2 sME_now_0_k17 sFL_far_0_k17 (lv_sub hl [0, 1, 2, 3, 4, 5] rfl)
              · have be44f_r39 : zB r39 0 7 := zB_eq c44 hr39 bx11f_v7_4 (by decide) (by decide)
                refine lv_iload hx hb dX3_mostMended_47 (lv_at hl 1 rfl) ?_
                refine lv_iload_n hx hb dX3_mostMended_49 rfl (lv_at hl 3 rfl) ?_
                refine lv_icmp_gt (tgt := 61) hx hb dX3_mostMended_50 (by decide) (fun c50 => ?_) (fun c50 => ?_)
                · have bx50t_v17_2 : zB v17_2 (-2147483648) 6 := zB_ltu (zl c50) (zB_top v17_2) bx11f_v7_4 (by decide)
                  exact j61 ls v17_3 v17_2 sME_now_0_k17 sFL_far_0_k17 (lv_sub hl [0, 1, 2, 3, 4, 5] rfl)
                · have by50f_v17_2 : zB v17_2 0 2147483647 := zB_lev (zg c50) bx11f_v7_4 (zB_top v17_2) (by decide)
                  refine lv_iload_n hx hb dX3_mostMended_53 rfl (lv_at hl 3 rfl) ?_
                  refine lv_iload hx hb dX3_mostMended_54 (lv_at hl 1 rfl) ?_
                  refine lv_isub hx hb dX3_mostMended_56 ?_
                  refine zi_top (a := (-7)) (b := 2147483647) (zB_sub by50f_v17_2 bx11f_v7_4 (by decide) (by decide) (by decide) (by decide)) (fun y56 by56 => ?_)
                  refine lv_istore_n (lv' := [(2, .int y56), (5, .int v17_5), (4, .int v7_4), (3, .int v17_3), (0, .ref ME), (1, .int x0)]) hx hb dX3_mostMended_57 rfl hl (by decide) rfl (fun ls hl => ?_)
                  obtain ⟨y58, ey58⟩ : ∃ y : Int32, v17_3 + Int32.ofInt 1 = y := ⟨_, rfl⟩
                  refine lv_iinc (v := y58) (lv' := [(3, .int y58), (2, .int y56), (5, .int v17_5), (4, .int v7_4), (0, .ref ME), (1, .int x0)]) hx hb dX3_mostMended_58 hl (k := 3) rfl ey58 (by decide) rfl (fun ls hl => ?_)
                  exact j61 ls y58 y56 sME_now_0_k17 sFL_far_0_k17 (lv_sub hl [2, 3, 0, 1, 4, 5] rfl)
        refine lv_istore (lv' := [(5, .int 0), (4, .int v7_4), (3, .int v7_3), (2, .int v7_2), (0, .ref ME), (1, .int x0)]) hx hb dX3_mostMended_15 hl (by decide) rfl (fun ls hl => ?_)
        exact j17 7 ls 0 v7_3 v7_2 (zB_w (show zB 0 0 0 from ⟨by decide, by decide⟩) (by decide) (by decide)) sME_now_0_k7 sFL_far_0_k7 (zM_ui (show zB 0 0 0 from ⟨by decide, by decide⟩) (by decide)) (lv_sub hl [0, 1, 2, 3, 4, 5] rfl)
  refine lv_istore (lv' := [(4, .int 0), (3, .int 0), (2, .int x0), (0, .ref ME), (1, .int x0)]) hx hb dX3_mostMended_5 hl (by decide) rfl (fun ls hl => ?_)
  exact j7 9 ls 0 0 x0 (zB_w (show zB 0 0 0 from ⟨by decide, by decide⟩) (by decide) (by decide)) s_ME_now_0 s_FL_far_0 (zM_ui (show zB 0 0 0 from ⟨by decide, by decide⟩) (by decide)) (lv_sub hl [0, 1, 2, 3, 4] rfl)
set_option maxHeartbeats 4000000 in
set_option maxRecDepth 100000 in
theorem c_X3_commonOf (l : Launch) (D : va_G) (cI : ClassId) (cB : ClassId) (cL : ClassId) (cZ : ClassId) (cG : ClassId) (x0 : Int32) (x1 : Int32) : Met l yX3_commonOf wsX3_commonOf ({ frames := 0, cells := 0, slots := 0, locals := 0 }) (xr D [(cI, .int), (cB, .byte), (cL, .long), (cZ, .boolean), (cG, .array .int)] [] [.int x0, .int x1]) (vp_Si (fun r => True)) 0 0 (fun _ => False) := by
  refine Met.ofW (cc := cX3_commonOf) (maxL := 6) (ret := (some .int)) (by decide) rfl ?_
  intro p e s m args below meth c s₁ B hml hv
  obtain ⟨rfl, hP, hK⟩ := hv
  have hx := B.exec
  have hb := B.bytes
  have hr := B.returns
  have hts := atoms_spec (ws := wsX3_commonOf) B.pre
  have hown : s.vm.findClass RX3 = some m.cls := findClass_of_methodNamed B.named
  have hlocks := B.notSynchronized
  clear B
  have hl := lv_entry ([.int x0, .int x1]) (n := 6) (Nat.le_of_ble_eq_true rfl)
  rw [lg_entry_eq]
  generalize (lg_sl ([.int x0, .int x1]) ++ List.replicate (6 - (lg_sl ([.int x0, .int x1])).length) Slot.unset).toArray = ls at hl ⊢
  replace hl : lv_has ls 6 [(0, .int x0), (1, .int x1)] := hl
  refine zz_abs (R := ({ frames := 0, cells := 0, slots := 0, locals := 0 } : Room)) (fun Q up => ?_)
  refine lv_iload_n hx hb dX3_commonOf_0 rfl (lv_at hl 0 rfl) ?_
  refine lv_istore_n (lv' := [(2, .int x0), (0, .int x0), (1, .int x1)]) hx hb dX3_commonOf_1 rfl hl (by decide) rfl (fun ls hl => ?_)
  refine lv_iload_n hx hb dX3_commonOf_2 rfl (lv_at hl 2 rfl) ?_
  refine lv_istore_n (lv' := [(3, .int x1), (2, .int x0), (0, .int x0), (1, .int x1)]) hx hb dX3_commonOf_3 rfl hl (by decide) rfl (fun ls hl => ?_)
  refine lv_iconst (v := 0) hx hb dX3_commonOf_4 (by decide) ?_
  have j7 : ∀ (n7 : Nat) (ls : Array Slot) (v7_4 : Int32) (v7_3 : Int32) (v7_2 : Int32), zB v7_4 0 64 → (64 + 1 - v7_4.toInt) ≤ (n7 : Int) → lv_has ls 6 [(4, .int v7_4), (3, .int v7_3), (2, .int v7_2), (0, .int x0), (1, .int x1)] → W p l e ({ frames := 0, cells := 0, slots := 0, locals := 0 } : Room) s m ([.int x0, .int x1] : List Value).toArray below meth c s.heap [] 0 0 Q (F0 m 7 ls []) := by
    intro n7
    induction n7 with
    | zero => intro ls v7_4 v7_3 v7_2 bv7_4_k7 hm7 hl; exact zM_u0 bv7_4_k7 hm7
    | succ n7 ih7 =>
      intro ls v7_4 v7_3 v7_2 bv7_4_k7 hm7 hl
      refine lv_iload hx hb dX3_commonOf_7 (lv_at hl 0 rfl) ?_
      refine lv_bipush (v := 64) hx hb dX3_commonOf_9 (by decide) ?_
      refine lv_icmp_ge (tgt := 34) hx hb dX3_commonOf_11 (by decide) (fun c11 => ?_) (fun c11 => ?_)
      · have by11t_v7_4 : zB v7_4 64 64 := zB_lev (ze c11) (show zB 64 64 64 from ⟨by decide, by decide⟩) bv7_4_k7 (by decide)
        refine lv_iload_n hx hb dX3_commonOf_34 rfl (lv_at hl 2 rfl) ?_
        exact up _ _ _ (W.iret (v := v7_2) hx hb hr (fun t ht hW => ⟨v7_2, rfl, trivial, ht⟩) (fun q hq => by cases hq) dX3_commonOf_35)
      · have bx11f_v7_4 : zB v7_4 0 63 := zB_ltu (zf c11) bv7_4_k7 (show zB 64 64 64 from ⟨by decide, by decide⟩) (by decide)
        refine lv_iload_n hx hb dX3_commonOf_14 rfl (lv_at hl 1 rfl) ?_
        refine lv_if_eq (tgt := 34) hx hb dX3_commonOf_15 (by decide) (fun c15 => ?_) (fun c15 => ?_)
        · have be15t_v7_3 : zB v7_3 0 0 := zB_eq c15 (zB_top v7_3) (show zB 0 0 0 from ⟨by decide, by decide⟩) (by decide) (by decide)
          refine lv_iload_n hx hb dX3_commonOf_34 rfl (lv_at hl 2 rfl) ?_
          exact up _ _ _ (W.iret (v := v7_2) hx hb hr (fun t ht hW => ⟨v7_2, rfl, trivial, ht⟩) (fun q hq => by cases hq) dX3_commonOf_35)
        · refine lv_iload_n hx hb dX3_commonOf_18 rfl (lv_at hl 2 rfl) ?_
          refine lv_iload_n hx hb dX3_commonOf_19 rfl (lv_at hl 1 rfl) ?_
          refine lv_irem hx hb dX3_commonOf_20 c15 ?_
          refine lv_topi (fun y20 _ => ?_)
          refine lv_istore (lv' := [(5, .int y20), (4, .int v7_4), (3, .int v7_3), (2, .int v7_2), (0, .int x0), (1, .int x1)]) hx hb dX3_commonOf_21 hl (by decide) rfl (fun ls hl => ?_)
          refine lv_iload_n hx hb dX3_commonOf_23 rfl (lv_at hl 2 rfl) ?_
          refine lv_istore_n (lv' := [(2, .int v7_3), (5, .int y20), (4, .int v7_4), (3, .int v7_3), (0, .int x0), (1, .int x1)]) hx hb dX3_commonOf_24 rfl hl (by decide) rfl (fun ls hl => ?_)
          refine lv_iload hx hb dX3_commonOf_25 (lv_at hl 1 rfl) ?_
          refine lv_istore_n (lv' := [(3, .int y20), (2, .int v7_3), (5, .int y20), (4, .int v7_4), (0, .int x0), (1, .int x1)]) hx hb dX3_commonOf_27 rfl hl (by decide) rfl (fun ls hl => ?_)
          obtain ⟨y28, by28, ry28, ey28⟩ := zi_inc (x := v7_4) (k := 1) (a := 1) (b := 64) bx11f_v7_4 (by decide) (by decide) (by decide) (by decide) (by decide)
          refine lv_iinc (v := y28) (lv' := [(4, .int y28), (3, .int y20), (2, .int v7_3), (5, .int y20), (0, .int x0), (1, .int x1)]) hx hb dX3_commonOf_28 hl (k := 3) rfl ey28 (by decide) rfl (fun ls hl => ?_)
          refine lv_goto (tgt := 7) hx hb dX3_commonOf_31 (by decide) ?_
          exact ih7 ls y28 y20 v7_3 (zB_w by28 (by decide) (by decide)) (zM_us (k := 1) hm7 ry28 (by decide)) (lv_sub hl [0, 1, 2, 4, 5] rfl)
  refine lv_istore (lv' := [(4, .int 0), (3, .int x1), (2, .int x0), (0, .int x0), (1, .int x1)]) hx hb dX3_commonOf_5 hl (by decide) rfl (fun ls hl => ?_)
  exact j7 65 ls 0 x1 x0 (zB_w (show zB 0 0 0 from ⟨by decide, by decide⟩) (by decide) (by decide)) (zM_ui (show zB 0 0 0 from ⟨by decide, by decide⟩) (by decide)) (lv_sub hl [0, 1, 2, 3, 4] rfl)
set_option maxHeartbeats 4000000 in
set_option maxRecDepth 100000 in
theorem c_X3_oddsToStay (l : Launch) (D : va_G) (cI : ClassId) (cB : ClassId) (cL : ClassId) (cZ : ClassId) (cG : ClassId) (ME : Nat) (x0 : Int32) (x1 : Int32) (x2 : Int32) (FL : Nat) (aME : Nat → Nat) (ME_oldest : Int32) (ME_done : Int32) (ME_undone : Int32) (ME_now : Nat → Int32) (PL : Nat) (aFL : Nat → Nat) (FL_parting : Int32) (PL_rooms : Int32) (aPL : Nat → Nat) (PL_doors : Int32) (PL_things : Int32) (FO : Nat) (PL_draw : Int32) (PL_drawTold : Int32) (aFO : Nat → Nat) (FO_size : Int32) (FO_units : Int32) (FO_told : Int32) (PL_us : Nat → Int32) (PL_them : Nat → Int32) (FL_far : Nat → Int32) (FO_known : Nat → Int32) (FO_steps : Nat → Int32) (FO_stack : Nat → Int32) (sz : Nat) (b_x0 : zB x0 0 5) (b_x1 : zB x1 0 4) (b_ME_oldest : zB ME_oldest 0 40) (b_ME_done : zB ME_done 0 40) (b_ME_undone : zB ME_undone 0 40) (b_PL_rooms : zB PL_rooms 0 8) (b_PL_doors : zB PL_doors 0 12) (b_PL_things : zB PL_things 0 6) (b_FO_size : zB FO_size 0 400) (s_ME_now_0 : zA ME_now 0 12 0 7) (s_FL_far_0 : zA FL_far 0 64 (-1) 7) : Met l yX3_oddsToStay wsX3_oddsToStay ({ frames := 3, cells := 0, slots := 0, locals := 69 }) (xp D [(cI, .int), (cB, .byte), (cL, .long), (cZ, .boolean), (cG, .array .int)] [(ME, .inr (3, oX3 FL aME ME_oldest ME_done ME_undone)), ((aME 1), .inl (cI, 32, .inl ME_now)), (FL, .inr (0, oX0 PL aFL FL_parting)), (PL, .inr (5, oX5 FO aPL PL_rooms PL_doors PL_things PL_draw PL_drawTold)), (FO, .inr (1, oX1 aFO FO_size FO_units FO_told)), ((aPL 11), .inl (cI, 6, .inl PL_us)), ((aPL 12), .inl (cI, 6, .inl PL_them)), ((aFL 2), .inl (cI, 64, .inl FL_far)), ((aFO 2), .inl (cI, 5, .inl FO_known)), ((aFO 0), .inl (cI, 400, .inl FO_steps)), ((aFO 1), .inl (cI, 61, .inl FO_stack))] sz [] [.ref ME, .int x0, .int x1, .int x2]) (va_Qi (fun (r : Int32) (_ : Unit) => True) (fun (_ : Unit) (t : State) => ∃ (nFOknown : Nat → Int32), ∃ (nFOstack : Nat → Int32), xB D (va_A [(ME, .inr (3, oX3 FL aME ME_oldest ME_done ME_undone)), ((aME 1), .inl (cI, 32, .inl ME_now)), (FL, .inr (0, oX0 PL aFL FL_parting)), (PL, .inr (5, oX5 FO aPL PL_rooms PL_doors PL_things PL_draw PL_drawTold)), (FO, .inr (1, oX1 aFO FO_size FO_units FO_told)), ((aPL 11), .inl (cI, 6, .inl PL_us)), ((aPL 12), .inl (cI, 6, .inl PL_them)), ((aFL 2), .inl (cI, 64, .inl FL_far)), ((aFO 2), .inl (cI, 5, .inl FO_known)), ((aFO 0), .inl (cI, 400, .inl FO_steps)), ((aFO 1), .inl (cI, 61, .inl FO_stack))] sz) [(ME, .inr (3, oX3 FL aME ME_oldest ME_done ME_undone)), ((aME 1), .inl (cI, 32, .inl ME_now)), (FL, .inr (0, oX0 PL aFL FL_parting)), (PL, .inr (5, oX5 FO aPL PL_rooms PL_doors PL_things PL_draw PL_drawTold)), (FO, .inr (1, oX1 aFO FO_size FO_units FO_told)), ((aPL 11), .inl (cI, 6, .inl PL_us)), ((aPL 12), .inl (cI, 6, .inl PL_them)), ((aFL 2), .inl (cI, 64, .inl FL_far)), ((aFO 2), .inl (cI, 5, .inl nFOknown)), ((aFO 0), .inl (cI, 400, .inl FO_steps)), ((aFO 1), .inl (cI, 61, .inl nFOstack))] t) (va_A [(ME, .inr (3, oX3 FL aME ME_oldest ME_done ME_undone)), ((aME 1), .inl (cI, 32, .inl ME_now)), (FL, .inr (0, oX0 PL aFL FL_parting)), (PL, .inr (5, oX5 FO aPL PL_rooms PL_doors PL_things PL_draw PL_drawTold)), (FO, .inr (1, oX1 aFO FO_size FO_units FO_told)), ((aPL 11), .inl (cI, 6, .inl PL_us)), ((aPL 12), .inl (cI, 6, .inl PL_them)), ((aFL 2), .inl (cI, 64, .inl FL_far)), ((aFO 2), .inl (cI, 5, .inl FO_known)), ((aFO 0), .inl (cI, 400, .inl FO_steps)), ((aFO 1), .inl (cI, 61, .inl FO_stack))] sz)) 0 0 (va_A [(ME, .inr (3, oX3 FL aME ME_oldest ME_done ME_undone)), ((aME 1), .inl (cI, 32, .inl ME_now)), (FL, .inr (0, oX0 PL aFL FL_parting)), (PL, .inr (5, oX5 FO aPL PL_rooms PL_doors PL_things PL_draw PL_drawTold)), (FO, .inr (1, oX1 aFO FO_size FO_units FO_told)), ((aPL 11), .inl (cI, 6, .inl PL_us)), ((aPL 12), .inl (cI, 6, .inl PL_them)), ((aFL 2), .inl (cI, 64, .inl FL_far)), ((aFO 2), .inl (cI, 5, .inl FO_known)), ((aFO 0), .inl (cI, 400, .inl FO_steps)), ((aFO 1), .inl (cI, 61, .inl FO_stack))] sz) := by
  refine Met.ofW (cc := cX3_oddsToStay) (maxL := 7) (ret := (some .int)) (by decide) rfl ?_
  intro p e s m args below meth c s₁ B hml hv
  obtain ⟨rfl, hsz, hP, hK, hD0, hNw⟩ := hv
  have hx := B.exec
  have hb := B.bytes
  have hr := B.returns
  have hts := atoms_spec (ws := wsX3_oddsToStay) B.pre
  have hown : s.vm.findClass RX3 = some m.cls := findClass_of_methodNamed B.named
  have hlocks := B.notSynchronized
  clear B
  subst hsz
  have hD := hD0.self (sz := s.heap.size)
  clear hD0 hNw
  generalize hAe : va_A [(ME, .inr (3, oX3 FL aME ME_oldest ME_done ME_undone)), ((aME 1), .inl (cI, 32, .inl ME_now)), (FL, .inr (0, oX0 PL aFL FL_parting)), (PL, .inr (5, oX5 FO aPL PL_rooms PL_doors PL_things PL_draw PL_drawTold)), (FO, .inr (1, oX1 aFO FO_size FO_units FO_told)), ((aPL 11), .inl (cI, 6, .inl PL_us)), ((aPL 12), .inl (cI, 6, .inl PL_them)), ((aFL 2), .inl (cI, 64, .inl FL_far)), ((aFO 2), .inl (cI, 5, .inl FO_known)), ((aFO 0), .inl (cI, 400, .inl FO_steps)), ((aFO 1), .inl (cI, 61, .inl FO_stack))] s.heap.size = A at hD ⊢
  have hA : ∀ q : Nat, s.heap.size ≤ q → A q := fun q h => by rw [← hAe]; exact Or.inr h
  have hS : va_S A s.heap s.heap [] := va_S.rf
  clear hAe
  obtain ⟨H, hH⟩ : ∃ H : Heap, H = s.heap := ⟨_, rfl⟩
  obtain ⟨locs, hlocs⟩ : ∃ L : List Loc, L = [] := ⟨_, rfl⟩
  replace hP : va_P D classes [(ME, .inr (3, oX3 FL aME ME_oldest ME_done ME_undone)), ((aME 1), .inl (cI, 32, .inl ME_now)), (FL, .inr (0, oX0 PL aFL FL_parting)), (PL, .inr (5, oX5 FO aPL PL_rooms PL_doors PL_things PL_draw PL_drawTold)), (FO, .inr (1, oX1 aFO FO_size FO_units FO_told)), ((aPL 11), .inl (cI, 6, .inl PL_us)), ((aPL 12), .inl (cI, 6, .inl PL_them)), ((aFL 2), .inl (cI, 64, .inl FL_far)), ((aFO 2), .inl (cI, 5, .inl FO_known)), ((aFO 0), .inl (cI, 400, .inl FO_steps)), ((aFO 1), .inl (cI, 61, .inl FO_stack))] H := by rw [hH]; exact hP
  replace hS : va_S A s.heap H locs := by rw [hH, hlocs]; exact hS
  rw [← hH, ← hlocs]
  clear hlocs hH
  have hl := lv_entry ([.ref ME, .int x0, .int x1, .int x2]) (n := 7) (Nat.le_of_ble_eq_true rfl)
  rw [lg_entry_eq]
  generalize (lg_sl ([.ref ME, .int x0, .int x1, .int x2]) ++ List.replicate (7 - (lg_sl ([.ref ME, .int x0, .int x1, .int x2])).length) Slot.unset).toArray = ls at hl ⊢
  replace hl : lv_has ls 7 [(0, .ref ME), (1, .int x0), (2, .int x1), (3, .int x2)] := hl
  refine zz_abs (R := ({ frames := 3, cells := 0, slots := 0, locals := 69 } : Room)) (fun Q up => ?_)
  refine lv_iconst (v := 1) hx hb dX3_oddsToStay_0 (by decide) ?_
  refine lv_istore (lv' := [(4, .int 1), (0, .ref ME), (1, .int x0), (2, .int x1), (3, .int x2)]) hx hb dX3_oddsToStay_1 hl (by decide) rfl (fun ls hl => ?_)
  refine lv_iconst (v := 1) hx hb dX3_oddsToStay_3 (by decide) ?_
  refine lv_istore (lv' := [(5, .int 1), (4, .int 1), (0, .ref ME), (1, .int x0), (2, .int x1), (3, .int x2)]) hx hb dX3_oddsToStay_4 hl (by decide) rfl (fun ls hl => ?_)
  refine lv_iconst (v := 0) hx hb dX3_oddsToStay_6 (by decide) ?_
  have j9 : ∀ (n9 : Nat) (H : Heap) (locs : List Loc) (ls : Array Slot) (v9_6 : Int32) (v9_5 : Int32) (v9_4 : Int32) (g9_aFO2 : Nat → Int32) (g9_aFO1 : Nat → Int32), zB v9_6 0 4 → zA ME_now 0 12 0 7 → zA FL_far 0 64 (-1) 7 → (4 + 1 - v9_6.toInt) ≤ (n9 : Int) → va_P D classes [(ME, .inr (3, oX3 FL aME ME_oldest ME_done ME_undone)), ((aME 1), .inl (cI, 32, .inl ME_now)), (FL, .inr (0, oX0 PL aFL FL_parting)), (PL, .inr (5, oX5 FO aPL PL_rooms PL_doors PL_things PL_draw PL_drawTold)), (FO, .inr (1, oX1 aFO FO_size FO_units FO_told)), ((aPL 11), .inl (cI, 6, .inl PL_us)), ((aPL 12), .inl (cI, 6, .inl PL_them)), ((aFL 2), .inl (cI, 64, .inl FL_far)), ((aFO 2), .inl (cI, 5, .inl g9_aFO2)), ((aFO 0), .inl (cI, 400, .inl FO_steps)), ((aFO 1), .inl (cI, 61, .inl g9_aFO1))] H → va_D A [(ME, .inr (3, oX3 FL aME ME_oldest ME_done ME_undone)), ((aME 1), .inl (cI, 32, .inl ME_now)), (FL, .inr (0, oX0 PL aFL FL_parting)), (PL, .inr (5, oX5 FO aPL PL_rooms PL_doors PL_things PL_draw PL_drawTold)), (FO, .inr (1, oX1 aFO FO_size FO_units FO_told)), ((aPL 11), .inl (cI, 6, .inl PL_us)), ((aPL 12), .inl (cI, 6, .inl PL_them)), ((aFL 2), .inl (cI, 64, .inl FL_far)), ((aFO 2), .inl (cI, 5, .inl g9_aFO2)), ((aFO 0), .inl (cI, 400, .inl FO_steps)), ((aFO 1), .inl (cI, 61, .inl g9_aFO1))] → va_S A s.heap H locs → lv_has ls 7 [(6, .int v9_6), (5, .int v9_5), (4, .int v9_4), (0, .ref ME), (1, .int x0), (2, .int x1), (3, .int x2)] → W p l e ({ frames := 3, cells := 0, slots := 0, locals := 69 } : Room) s m ([.ref ME, .int x0, .int x1, .int x2] : List Value).toArray below meth c H locs 0 0 Q (F0 m 9 ls []) := by
    intro n9
    induction n9 with
    | zero => intro H locs ls v9_6 v9_5 v9_4 g9_aFO2 g9_aFO1 bv9_6_k9 sME_now_0_k9 sFL_far_0_k9 hm9 hP hD hS hl; exact zM_u0 bv9_6_k9 hm9
    | succ n9 ih9 =>
      intro H locs ls v9_6 v9_5 v9_4 g9_aFO2 g9_aFO1 bv9_6_k9 sME_now_0_k9 sFL_far_0_k9 hm9 hP hD hS hl
      refine lv_iload hx hb dX3_oddsToStay_9 (lv_at hl 0 rfl) ?_
      refine lv_iload_n hx hb dX3_oddsToStay_11 rfl (lv_at hl 5 rfl) ?_
      refine lv_icmp_ge (tgt := 52) hx hb dX3_oddsToStay_12 (by decide) (fun c12 => ?_) (fun c12 => ?_)
      · refine lv_iconst (v := 1) hx hb dX3_oddsToStay_52 (by decide) ?_
        refine lv_iload hx hb dX3_oddsToStay_53 (lv_at hl 2 rfl) ?_
        refine lv_iload hx hb dX3_oddsToStay_55 (lv_at hl 1 rfl) ?_
        have hPc := hP.sub (ws' := []) [] rfl
        refine vp_callSi (va_runS (As := [.int v9_4, .int v9_5]) (rest := [.int 1]) ⟨hx, hb, hml, hown, hts⟩ (c_X3_commonOf l D cI cB cL cZ cG v9_4 v9_5) (va_cwS 2 hts gX3_oddsToStay_X3_commonOf rfl rfl rfl (by decide +kernel) ⟨Nat.le_of_ble_eq_true rfl, Nat.le_of_ble_eq_true rfl⟩) ⟨xr_blind, fun U hU hW => xr_mk hU hW hPc hK⟩ rfl rfl hl.1 rfl (lv_room (Nat.le_of_ble_eq_true rfl)) dX3_oddsToStay_57 ⟨Nat.le_of_ble_eq_true rfl, Nat.le_of_ble_eq_true rfl⟩).run (fun r57 hr57 => ?_)
        clear hPc
        clear hr57
        refine va_mmax hx hb (by rw [hml]; exact hl.1.symm) hown (hts (.methodLink RX3 102 Lib.Math.max.name) (List.mem_of_getElem? (i := 2) rfl)) (hts (.static Lib.Math.max.name) (List.mem_of_getElem? (i := 3) rfl)) (hts (.initialized "java/lang/Math") (List.mem_of_getElem? (i := 4) rfl)) (hts (.code Lib.Math.max.name Lib.Math.max.code 2 (some .int)) (List.mem_of_getElem? (i := 5) rfl)) (Nat.le_of_ble_eq_true rfl) (Nat.le_of_ble_eq_true rfl) (Nat.le_of_ble_eq_true rfl) (Nat.le_of_ble_eq_true rfl) dX3_oddsToStay_60 ?_
        refine zi_top (a := 1) (b := 2147483647) (zB_max (show zB 1 1 1 from ⟨by decide, by decide⟩) (zB_top r57) (by decide) (by decide)) (fun y60 by60 => ?_)
        refine lv_istore (lv' := [(6, .int y60), (5, .int v9_5), (4, .int v9_4), (0, .ref ME), (1, .int x0), (2, .int x1), (3, .int x2)]) hx hb dX3_oddsToStay_63 hl (by decide) rfl (fun ls hl => ?_)
        refine lv_iload_n hx hb dX3_oddsToStay_65 rfl (lv_at hl 6 rfl) ?_
        refine lv_if_ne (tgt := 77) hx hb dX3_oddsToStay_66 (by decide) (fun c66 => ?_) (fun c66 => ?_)
        · refine lv_iload hx hb dX3_oddsToStay_77 (lv_at hl 1 rfl) ?_
          refine lv_iload hx hb dX3_oddsToStay_79 (lv_at hl 0 rfl) ?_
          refine lv_idiv hx hb dX3_oddsToStay_81 (zB_nz by60 (by decide)) ?_
          refine lv_topi (fun y81 _ => ?_)
          exact up _ _ _ (W.iret (v := y81) hx hb hr (fun t ht hW => ⟨⟨y81, (), rfl, trivial, ⟨g9_aFO2, g9_aFO1, by rw [ht]; exact hP, hD⟩⟩, hS.F ht⟩) hS.2.2 dX3_oddsToStay_82)
        · have be66f_x2 : zB x2 0 0 := zB_eq c66 (zB_top x2) (show zB 0 0 0 from ⟨by decide, by decide⟩) (by decide) (by decide)
          refine lv_iload hx hb dX3_oddsToStay_69 (lv_at hl 2 rfl) ?_
          refine lv_iload hx hb dX3_oddsToStay_71 (lv_at hl 0 rfl) ?_
          refine lv_idiv hx hb dX3_oddsToStay_73 (zB_nz by60 (by decide)) ?_
          refine lv_topi (fun y73 _ => ?_)
          refine lv_goto (tgt := 82) hx hb dX3_oddsToStay_74 (by decide) ?_
          exact up _ _ _ (W.iret (v := y73) hx hb hr (fun t ht hW => ⟨⟨y73, (), rfl, trivial, ⟨g9_aFO2, g9_aFO1, by rw [ht]; exact hP, hD⟩⟩, hS.F ht⟩) hS.2.2 dX3_oddsToStay_82)
      · have bx12f_v9_6 : zB v9_6 0 3 := zB_ltu (zf c12) bv9_6_k9 b_x1 (by decide)
        have by12f_x1 : zB x1 1 4 := zB_ltv (zf c12) bx12f_v9_6 b_x1 (by decide)
        refine lv_iload hx hb dX3_oddsToStay_15 (lv_at hl 2 rfl) ?_
        refine lv_aload_n hx hb dX3_oddsToStay_17 rfl (lv_at hl 3 rfl) ?_
        refine lv_aload_n hx hb dX3_oddsToStay_18 rfl (lv_at hl 3 rfl) ?_
        refine va_get (D := D) (ci := 3) (v := .ref (aME 1)) (C := RX3) (T := TX3) (N := 9) hx hb hts iw_X3_oddsToStay_X3 hown hK hP 0 rfl rfl 1 (by decide) (hts (.fieldLink RX3 11 "SoldHouse$Memory" "now" "[I") (List.mem_of_getElem? (i := 1) rfl)) (fun _ h9 => h9) rfl dX3_oddsToStay_19 ?_
        refine lv_iload_n hx hb dX3_oddsToStay_22 rfl (lv_at hl 4 rfl) ?_
        refine lv_aload_n hx hb dX3_oddsToStay_23 rfl (lv_at hl 3 rfl) ?_
        refine va_get (D := D) (ci := 3) (v := .ref (aME 1)) (C := RX3) (T := TX3) (N := 9) hx hb hts iw_X3_oddsToStay_X3 hown hK hP 0 rfl rfl 1 (by decide) (hts (.fieldLink RX3 11 "SoldHouse$Memory" "now" "[I") (List.mem_of_getElem? (i := 1) rfl)) (fun _ h9 => h9) rfl dX3_oddsToStay_24 ?_
        refine lv_bipush (v := 30) hx hb dX3_oddsToStay_27 (by decide) ?_
        refine va_iald hx hb hK hP 1 0 rfl rfl (zB_in (show zB 30 30 30 from ⟨by decide, by decide⟩) (by decide) (by decide)) dX3_oddsToStay_29 ?_
        refine lv_topi (fun y29 _ => ?_)
        refine lv_iload hx hb dX3_oddsToStay_30 (lv_at hl 0 rfl) ?_
        refine lv_iadd hx hb dX3_oddsToStay_32 ?_
        refine lv_topi (fun y32 _ => ?_)
        have hPc := hP.sub (ws' := [((aME 1), .inl (cI, 32, .inl ME_now)), (ME, .inr (3, oX3 FL aME ME_oldest ME_done ME_undone)), (FL, .inr (0, oX0 PL aFL FL_parting)), (PL, .inr (5, oX5 FO aPL PL_rooms PL_doors PL_things PL_draw PL_drawTold)), (FO, .inr (1, oX1 aFO FO_size FO_units FO_told)), ((aPL 11), .inl (cI, 6, .inl PL_us)), ((aPL 12), .inl (cI, 6, .inl PL_them)), ((aFL 2), .inl (cI, 64, .inl FL_far)), ((aFO 2), .inl (cI, 5, .inl g9_aFO2)), ((aFO 0), .inl (cI, 400, .inl FO_steps)), ((aFO 1), .inl (cI, 61, .inl g9_aFO1))]) [1, 0, 2, 3, 4, 5, 6, 7, 8, 9, 10] rfl
        have hDc := hD.sub (ws' := [((aME 1), .inl (cI, 32, .inl ME_now)), (ME, .inr (3, oX3 FL aME ME_oldest ME_done ME_undone)), (FL, .inr (0, oX0 PL aFL FL_parting)), (PL, .inr (5, oX5 FO aPL PL_rooms PL_doors PL_things PL_draw PL_drawTold)), (FO, .inr (1, oX1 aFO FO_size FO_units FO_told)), ((aPL 11), .inl (cI, 6, .inl PL_us)), ((aPL 12), .inl (cI, 6, .inl PL_them)), ((aFL 2), .inl (cI, 64, .inl FL_far)), ((aFO 2), .inl (cI, 5, .inl g9_aFO2)), ((aFO 0), .inl (cI, 400, .inl FO_steps)), ((aFO 1), .inl (cI, 61, .inl g9_aFO1))]) [1, 0, 2, 3, 4, 5, 6, 7, 8, 9, 10] (by decide) rfl
        have hFc := va_free (wc := [((aME 1), .inl (cI, 32, .inl ME_now)), (ME, .inr (3, oX3 FL aME ME_oldest ME_done ME_undone)), (FL, .inr (0, oX0 PL aFL FL_parting)), (PL, .inr (5, oX5 FO aPL PL_rooms PL_doors PL_things PL_draw PL_drawTold)), (FO, .inr (1, oX1 aFO FO_size FO_units FO_told)), ((aPL 11), .inl (cI, 6, .inl PL_us)), ((aPL 12), .inl (cI, 6, .inl PL_them)), ((aFL 2), .inl (cI, 64, .inl FL_far)), ((aFO 2), .inl (cI, 5, .inl g9_aFO2)), ((aFO 0), .inl (cI, 400, .inl FO_steps)), ((aFO 1), .inl (cI, 61, .inl g9_aFO1))]) hD hS hA [1, 0, 2, 3, 4, 5, 6, 7, 8, 9, 10] rfl
        refine va_calli (va_runV (As := [.ref (aME 1), .int x0, .int y32]) (rest := [.int v9_4]) ⟨hx, hb, hml, hown, hts⟩ (c_X3_sureOf l D cI cB cL cZ cG ME (aME 1) ME_now x0 y32 FL aME ME_oldest ME_done ME_undone PL aFL FL_parting PL_rooms aPL PL_doors PL_things FO PL_draw PL_drawTold aFO FO_size FO_units FO_told PL_us PL_them FL_far g9_aFO2 FO_steps g9_aFO1 H.size b_x0 b_ME_oldest b_ME_done b_ME_undone b_PL_rooms b_PL_doors b_PL_things b_FO_size sME_now_0_k9 sFL_far_0_k9) (cwV 3 hts gX3_oddsToStay_X3_sureOf rfl rfl rfl (by decide +kernel) ⟨Nat.le_of_ble_eq_true rfl, Nat.le_of_ble_eq_true rfl⟩) ⟨xp_blind, va_recv hK hP (ci := 3) (q0 := 0) rfl rfl, fun U hU hW => xp_mk hU hW hPc hK hDc xNw_nil⟩ rfl rfl hl.1 rfl (lv_room (Nat.le_of_ble_eq_true rfl)) dX3_oddsToStay_33 ⟨Nat.le_of_ble_eq_true rfl, Nat.le_of_ble_eq_true rfl⟩) hS (fun q _ h => hFc q h) hFc (fun r33 u9 t9 H1 locs ht9 hvm9 hr33 hB9 hz9 hk9 hS => ?_)
        obtain ⟨o33_nFOknown, o33_nFOstack, hP1, hD1⟩ := hB9
        rw [ht9] at hP1
        obtain ⟨hP, hD⟩ := va_join (wr := []) (w1 := [((aME 1), .inl (cI, 32, .inl ME_now)), (ME, .inr (3, oX3 FL aME ME_oldest ME_done ME_undone)), (FL, .inr (0, oX0 PL aFL FL_parting)), (PL, .inr (5, oX5 FO aPL PL_rooms PL_doors PL_things PL_draw PL_drawTold)), (FO, .inr (1, oX1 aFO FO_size FO_units FO_told)), ((aPL 11), .inl (cI, 6, .inl PL_us)), ((aPL 12), .inl (cI, 6, .inl PL_them)), ((aFL 2), .inl (cI, 64, .inl FL_far)), ((aFO 2), .inl (cI, 5, .inl o33_nFOknown)), ((aFO 0), .inl (cI, 400, .inl FO_steps)), ((aFO 1), .inl (cI, 61, .inl o33_nFOstack))]) hP hD [1, 0, 2, 3, 4, 5, 6, 7, 8, 9, 10] [] rfl rfl (by decide) (by decide) hk9 hFc hP1 hD1
        clear hz9 hPc hDc hP1 hD1 hk9 hFc ht9 hvm9 u9 t9
        generalize H1 = H at hP hS ⊢
        replace hP : va_P D classes [(ME, .inr (3, oX3 FL aME ME_oldest ME_done ME_undone)), ((aME 1), .inl (cI, 32, .inl ME_now)), (FL, .inr (0, oX0 PL aFL FL_parting)), (PL, .inr (5, oX5 FO aPL PL_rooms PL_doors PL_things PL_draw PL_drawTold)), (FO, .inr (1, oX1 aFO FO_size FO_units FO_told)), ((aPL 11), .inl (cI, 6, .inl PL_us)), ((aPL 12), .inl (cI, 6, .inl PL_them)), ((aFL 2), .inl (cI, 64, .inl FL_far)), ((aFO 2), .inl (cI, 5, .inl o33_nFOknown)), ((aFO 0), .inl (cI, 400, .inl FO_steps)), ((aFO 1), .inl (cI, 61, .inl o33_nFOstack))] H := hP.sub [1, 0, 2, 3, 4, 5, 6, 7, 8, 9, 10] rfl
        replace hD : va_D A [(ME, .inr (3, oX3 FL aME ME_oldest ME_done ME_undone)), ((aME 1), .inl (cI, 32, .inl ME_now)), (FL, .inr (0, oX0 PL aFL FL_parting)), (PL, .inr (5, oX5 FO aPL PL_rooms PL_doors PL_things PL_draw PL_drawTold)), (FO, .inr (1, oX1 aFO FO_size FO_units FO_told)), ((aPL 11), .inl (cI, 6, .inl PL_us)), ((aPL 12), .inl (cI, 6, .inl PL_them)), ((aFL 2), .inl (cI, 64, .inl FL_far)), ((aFO 2), .inl (cI, 5, .inl o33_nFOknown)), ((aFO 0), .inl (cI, 400, .inl FO_steps)), ((aFO 1), .inl (cI, 61, .inl o33_nFOstack))] := hD.sub [1, 0, 2, 3, 4, 5, 6, 7, 8, 9, 10] (by decide) rfl
        refine lv_imul hx hb dX3_oddsToStay_36 ?_
        refine lv_topi (fun y36 _ => ?_)
        refine lv_istore (lv' := [(4, .int y36), (6, .int v9_6), (5, .int v9_5), (0, .ref ME), (1, .int x0), (2, .int x1), (3, .int x2)]) hx hb dX3_oddsToStay_37 hl (by decide) rfl (fun ls hl => ?_)
        refine lv_iload hx hb dX3_oddsToStay_39 (lv_at hl 2 rfl) ?_
        refine lv_bipush (v := 100) hx hb dX3_oddsToStay_41 (by decide) ?_
        refine lv_imul hx hb dX3_oddsToStay_43 ?_
        refine lv_topi (fun y43 _ => ?_)
        refine lv_istore (lv' := [(5, .int y43), (4, .int y36), (6, .int v9_6), (0, .ref ME), (1, .int x0), (2, .int x1), (3, .int x2)]) hx hb dX3_oddsToStay_44 hl (by decide) rfl (fun ls hl => ?_)
        obtain ⟨y46, by46, ry46, ey46⟩ := zi_inc (x := v9_6) (k := 1) (a := 1) (b := 4) bx12f_v9_6 (by decide) (by decide) (by decide) (by decide) (by decide)
        refine lv_iinc (v := y46) (lv' := [(6, .int y46), (5, .int y43), (4, .int y36), (0, .ref ME), (1, .int x0), (2, .int x1), (3, .int x2)]) hx hb dX3_oddsToStay_46 hl (k := 2) rfl ey46 (by decide) rfl (fun ls hl => ?_)
        refine lv_goto (tgt := 9) hx hb dX3_oddsToStay_49 (by decide) ?_
        exact ih9 H locs ls y46 y43 y36 o33_nFOknown o33_nFOstack (zB_w by46 (by decide) (by decide)) sME_now_0_k9 sFL_far_0_k9 (zM_us (k := 1) hm9 ry46 (by decide)) hP hD hS (lv_sub hl [0, 1, 2, 3, 4, 5, 6] rfl)
  refine lv_istore (lv' := [(6, .int 0), (5, .int 1), (4, .int 1), (0, .ref ME), (1, .int x0), (2, .int x1), (3, .int x2)]) hx hb dX3_oddsToStay_7 hl (by decide) rfl (fun ls hl => ?_)
  exact j9 5 H locs ls 0 1 1 FO_known FO_stack (zB_w (show zB 0 0 0 from ⟨by decide, by decide⟩) (by decide) (by decide)) s_ME_now_0 s_FL_far_0 (zM_ui (show zB 0 0 0 from ⟨by decide, by decide⟩) (by decide)) hP hD hS (lv_sub hl [0, 1, 2, 3, 4, 5, 6] rfl)
set_option maxHeartbeats 4000000 in
set_option maxRecDepth 100000 in
theorem c_X10_isOurs (l : Launch) (D : va_G) (cI : ClassId) (cB : ClassId) (cL : ClassId) (cZ : ClassId) (cG : ClassId) (TR : Nat) (x0 : Int32) (ME : Nat) (FL : Nat) (aME : Nat → Nat) (ME_oldest : Int32) (ME_done : Int32) (ME_undone : Int32) (ME_now : Nat → Int32) (b_x0 : zB x0 0 5) (b_ME_oldest : zB ME_oldest 0 40) (b_ME_done : zB ME_done 0 40) (b_ME_undone : zB ME_undone 0 40) (s_ME_now_0 : zA ME_now 0 12 0 7) : Met l yX10_isOurs wsX10_isOurs ({ frames := 0, cells := 0, slots := 0, locals := 0 }) (xr D [(cI, .int), (cB, .byte), (cL, .long), (cZ, .boolean), (cG, .array .int)] [(TR, .inr (10, oX10 ME)), (ME, .inr (3, oX3 FL aME ME_oldest ME_done ME_undone)), ((aME 1), .inl (cI, 32, .inl ME_now))] [.ref TR, .int x0]) (vp_Si (fun r => zB r 0 1)) 0 0 (fun _ => False) := by
  refine Met.ofW (cc := cX10_isOurs) (maxL := 2) (ret := (some .boolean)) (by decide) rfl ?_
  intro p e s m args below meth c s₁ B hml hv
  obtain ⟨rfl, hP, hK⟩ := hv
  have hx := B.exec
  have hb := B.bytes
  have hr := B.returns
  have hts := atoms_spec (ws := wsX10_isOurs) B.pre
  have hown : s.vm.findClass RX10 = some m.cls := findClass_of_methodNamed B.named
  have hlocks := B.notSynchronized
  clear B
  have hl := lv_entry ([.ref TR, .int x0]) (n := 2) (Nat.le_of_ble_eq_true rfl)
  rw [lg_entry_eq]
  generalize (lg_sl ([.ref TR, .int x0]) ++ List.replicate (2 - (lg_sl ([.ref TR, .int x0])).length) Slot.unset).toArray = ls at hl ⊢
  replace hl : lv_has ls 2 [(0, .ref TR), (1, .int x0)] := hl
  refine lv_aload_n hx hb dX10_isOurs_0 rfl (lv_at hl 0 rfl) ?_
  refine va_get (D := D) (ci := 10) (v := .ref ME) (C := RX10) (T := TX10) (N := 1) hx hb hts iw_X10_isOurs_X10 hown hK hP 0 rfl rfl 0 (by decide) (hts (.fieldLink RX10 9 "SoldHouse$Trader" "memory" "LSoldHouse$Memory;") (List.mem_of_getElem? (i := 1) rfl)) (fun _ h9 => h9) rfl dX10_isOurs_1 ?_
  refine va_get (D := D) (ci := 3) (v := .ref (aME 1)) (C := RX3) (T := TX3) (N := 9) hx hb hts iw_X10_isOurs_X3 hown hK hP 1 rfl rfl 1 (by decide) (hts (.fieldLink RX10 44 "SoldHouse$Memory" "now" "[I") (List.mem_of_getElem? (i := 2) rfl)) (fun _ h9 => h9) rfl dX10_isOurs_4 ?_
  refine lv_bipush (v := 12) hx hb dX10_isOurs_7 (by decide) ?_
  refine lv_iload_n hx hb dX10_isOurs_9 rfl (lv_at hl 1 rfl) ?_
  refine lv_iadd hx hb dX10_isOurs_10 ?_
  refine zi_top (a := 12) (b := 17) (zB_add (show zB 12 12 12 from ⟨by decide, by decide⟩) b_x0 (by decide) (by decide) (by decide) (by decide)) (fun y10 by10 => ?_)
  refine va_iald hx hb hK hP 2 0 rfl rfl (zB_in by10 (by decide) (by decide)) dX10_isOurs_11 ?_
  refine lv_topi (fun y11 _ => ?_)
  refine lv_iconst (v := 1) hx hb dX10_isOurs_12 (by decide) ?_
  refine lv_icmp_ne (tgt := 20) hx hb dX10_isOurs_13 (by decide) (fun c13 => ?_) (fun c13 => ?_)
  · refine lv_iconst (v := 0) hx hb dX10_isOurs_20 (by decide) ?_
    exact W.zret (v := 0) (ty := .boolean) hx hb hr (by decide) (fun t ht hW => ⟨0, rfl, (zB_w (show zB 0 0 0 from ⟨by decide, by decide⟩) (by decide) (by decide)), ht⟩) (fun q hq => by cases hq) dX10_isOurs_21
  · have be13f_y11 : zB y11 1 1 := zB_eq c13 (zB_top y11) (show zB 1 1 1 from ⟨by decide, by decide⟩) (by decide) (by decide)
    refine lv_iconst (v := 1) hx hb dX10_isOurs_16 (by decide) ?_
    refine lv_goto (tgt := 21) hx hb dX10_isOurs_17 (by decide) ?_
    exact W.zret (v := 1) (ty := .boolean) hx hb hr (by decide) (fun t ht hW => ⟨1, rfl, (zB_w (show zB 1 1 1 from ⟨by decide, by decide⟩) (by decide) (by decide)), ht⟩) (fun q hq => by cases hq) dX10_isOurs_21
set_option maxHeartbeats 4000000 in
set_option maxRecDepth 100000 in
theorem c_X10_ourGain (l : Launch) (D : va_G) (cI : ClassId) (cB : ClassId) (cL : ClassId) (cZ : ClassId) (cG : ClassId) (TR : Nat) (x0 : Int32) (x1 : Int32) (ME : Nat) (FL : Nat) (aME : Nat → Nat) (ME_oldest : Int32) (ME_done : Int32) (ME_undone : Int32) (PL : Nat) (aFL : Nat → Nat) (FL_parting : Int32) (PL_rooms : Int32) (aPL : Nat → Nat) (PL_doors : Int32) (PL_things : Int32) (FO : Nat) (PL_draw : Int32) (PL_drawTold : Int32) (PL_us : Nat → Int32) (b_x0 : zB x0 0 5) (b_x1 : zB x1 0 5) (b_ME_oldest : zB ME_oldest 0 40) (b_ME_done : zB ME_done 0 40) (b_ME_undone : zB ME_undone 0 40) (b_PL_rooms : zB PL_rooms 0 8) (b_PL_doors : zB PL_doors 0 12) (b_PL_things : zB PL_things 0 6) : Met l yX10_ourGain wsX10_ourGain ({ frames := 0, cells := 0, slots := 0, locals := 0 }) (xr D [(cI, .int), (cB, .byte), (cL, .long), (cZ, .boolean), (cG, .array .int)] [(TR, .inr (10, oX10 ME)), (ME, .inr (3, oX3 FL aME ME_oldest ME_done ME_undone)), (FL, .inr (0, oX0 PL aFL FL_parting)), (PL, .inr (5, oX5 FO aPL PL_rooms PL_doors PL_things PL_draw PL_drawTold)), ((aPL 11), .inl (cI, 6, .inl PL_us))] [.ref TR, .int x0, .int x1]) (vp_Si (fun r => True)) 0 0 (fun _ => False) := by
  refine Met.ofW (cc := cX10_ourGain) (maxL := 3) (ret := (some .int)) (by decide) rfl ?_
  intro p e s m args below meth c s₁ B hml hv
  obtain ⟨rfl, hP, hK⟩ := hv
  have hx := B.exec
  have hb := B.bytes
  have hr := B.returns
  have hts := atoms_spec (ws := wsX10_ourGain) B.pre
  have hown : s.vm.findClass RX10 = some m.cls := findClass_of_methodNamed B.named
  have hlocks := B.notSynchronized
  clear B
  have hl := lv_entry ([.ref TR, .int x0, .int x1]) (n := 3) (Nat.le_of_ble_eq_true rfl)
  rw [lg_entry_eq]
  generalize (lg_sl ([.ref TR, .int x0, .int x1]) ++ List.replicate (3 - (lg_sl ([.ref TR, .int x0, .int x1])).length) Slot.unset).toArray = ls at hl ⊢
  replace hl : lv_has ls 3 [(0, .ref TR), (1, .int x0), (2, .int x1)] := hl
  refine lv_aload_n hx hb dX10_ourGain_0 rfl (lv_at hl 0 rfl) ?_
  refine va_get (D := D) (ci := 10) (v := .ref ME) (C := RX10) (T := TX10) (N := 1) hx hb hts iw_X10_ourGain_X10 hown hK hP 0 rfl rfl 0 (by decide) (hts (.fieldLink RX10 9 "SoldHouse$Trader" "memory" "LSoldHouse$Memory;") (List.mem_of_getElem? (i := 1) rfl)) (fun _ h9 => h9) rfl dX10_ourGain_1 ?_
  refine va_get (D := D) (ci := 3) (v := .ref FL) (C := RX3) (T := TX3) (N := 9) hx hb hts iw_X10_ourGain_X3 hown hK hP 1 rfl rfl 0 (by decide) (hts (.fieldLink RX10 15 "SoldHouse$Memory" "floor" "LSoldHouse$Floor;") (List.mem_of_getElem? (i := 2) rfl)) (fun _ h9 => h9) rfl dX10_ourGain_4 ?_
  refine va_get (D := D) (ci := 0) (v := .ref PL) (C := RX0) (T := TX0) (N := 5) hx hb hts iw_X10_ourGain_X0 hown hK hP 2 rfl rfl 0 (by decide) (hts (.fieldLink RX10 21 "SoldHouse$Floor" "plan" "LSoldHouse$Plan;") (List.mem_of_getElem? (i := 3) rfl)) (fun _ h9 => h9) rfl dX10_ourGain_7 ?_
  refine va_get (D := D) (ci := 5) (v := .ref (aPL 11)) (C := RX5) (T := TX5) (N := 16) hx hb hts iw_X10_ourGain_X5 hown hK hP 3 rfl rfl 11 (by decide) (hts (.fieldLink RX10 37 "SoldHouse$Plan" "us" "[I") (List.mem_of_getElem? (i := 4) rfl)) (fun _ h9 => h9) rfl dX10_ourGain_10 ?_
  refine lv_iload_n hx hb dX10_ourGain_13 rfl (lv_at hl 2 rfl) ?_
  refine va_iald hx hb hK hP 4 0 rfl rfl (zB_in b_x1 (by decide) (by decide)) dX10_ourGain_14 ?_
  refine lv_topi (fun y14 _ => ?_)
  refine lv_aload_n hx hb dX10_ourGain_15 rfl (lv_at hl 0 rfl) ?_
  refine va_get (D := D) (ci := 10) (v := .ref ME) (C := RX10) (T := TX10) (N := 1) hx hb hts iw_X10_ourGain_X10 hown hK hP 0 rfl rfl 0 (by decide) (hts (.fieldLink RX10 9 "SoldHouse$Trader" "memory" "LSoldHouse$Memory;") (List.mem_of_getElem? (i := 1) rfl)) (fun _ h9 => h9) rfl dX10_ourGain_16 ?_
  refine va_get (D := D) (ci := 3) (v := .ref FL) (C := RX3) (T := TX3) (N := 9) hx hb hts iw_X10_ourGain_X3 hown hK hP 1 rfl rfl 0 (by decide) (hts (.fieldLink RX10 15 "SoldHouse$Memory" "floor" "LSoldHouse$Floor;") (List.mem_of_getElem? (i := 2) rfl)) (fun _ h9 => h9) rfl dX10_ourGain_19 ?_
  refine va_get (D := D) (ci := 0) (v := .ref PL) (C := RX0) (T := TX0) (N := 5) hx hb hts iw_X10_ourGain_X0 hown hK hP 2 rfl rfl 0 (by decide) (hts (.fieldLink RX10 21 "SoldHouse$Floor" "plan" "LSoldHouse$Plan;") (List.mem_of_getElem? (i := 3) rfl)) (fun _ h9 => h9) rfl dX10_ourGain_22 ?_
  refine va_get (D := D) (ci := 5) (v := .ref (aPL 11)) (C := RX5) (T := TX5) (N := 16) hx hb hts iw_X10_ourGain_X5 hown hK hP 3 rfl rfl 11 (by decide) (hts (.fieldLink RX10 37 "SoldHouse$Plan" "us" "[I") (List.mem_of_getElem? (i := 4) rfl)) (fun _ h9 => h9) rfl dX10_ourGain_25 ?_
  refine lv_iload_n hx hb dX10_ourGain_28 rfl (lv_at hl 1 rfl) ?_
  refine va_iald hx hb hK hP 4 0 rfl rfl (zB_in b_x0 (by decide) (by decide)) dX10_ourGain_29 ?_
  refine lv_topi (fun y29 _ => ?_)
  refine lv_isub hx hb dX10_ourGain_30 ?_
  refine lv_topi (fun y30 _ => ?_)
  exact W.iret (v := y30) hx hb hr (fun t ht hW => ⟨y30, rfl, trivial, ht⟩) (fun q hq => by cases hq) dX10_ourGain_31
set_option maxHeartbeats 4000000 in
set_option maxRecDepth 100000 in
theorem c_X10_theirGain (l : Launch) (D : va_G) (cI : ClassId) (cB : ClassId) (cL : ClassId) (cZ : ClassId) (cG : ClassId) (TR : Nat) (x0 : Int32) (x1 : Int32) (ME : Nat) (FL : Nat) (aME : Nat → Nat) (ME_oldest : Int32) (ME_done : Int32) (ME_undone : Int32) (PL : Nat) (aFL : Nat → Nat) (FL_parting : Int32) (PL_rooms : Int32) (aPL : Nat → Nat) (PL_doors : Int32) (PL_things : Int32) (FO : Nat) (PL_draw : Int32) (PL_drawTold : Int32) (PL_them : Nat → Int32) (b_x0 : zB x0 0 5) (b_x1 : zB x1 0 5) (b_ME_oldest : zB ME_oldest 0 40) (b_ME_done : zB ME_done 0 40) (b_ME_undone : zB ME_undone 0 40) (b_PL_rooms : zB PL_rooms 0 8) (b_PL_doors : zB PL_doors 0 12) (b_PL_things : zB PL_things 0 6) : Met l yX10_theirGain wsX10_theirGain ({ frames := 0, cells := 0, slots := 0, locals := 0 }) (xr D [(cI, .int), (cB, .byte), (cL, .long), (cZ, .boolean), (cG, .array .int)] [(TR, .inr (10, oX10 ME)), (ME, .inr (3, oX3 FL aME ME_oldest ME_done ME_undone)), (FL, .inr (0, oX0 PL aFL FL_parting)), (PL, .inr (5, oX5 FO aPL PL_rooms PL_doors PL_things PL_draw PL_drawTold)), ((aPL 12), .inl (cI, 6, .inl PL_them))] [.ref TR, .int x0, .int x1]) (vp_Si (fun r => True)) 0 0 (fun _ => False) := by
  refine Met.ofW (cc := cX10_theirGain) (maxL := 3) (ret := (some .int)) (by decide) rfl ?_
  intro p e s m args below meth c s₁ B hml hv
  obtain ⟨rfl, hP, hK⟩ := hv
  have hx := B.exec
  have hb := B.bytes
  have hr := B.returns
  have hts := atoms_spec (ws := wsX10_theirGain) B.pre
  have hown : s.vm.findClass RX10 = some m.cls := findClass_of_methodNamed B.named
  have hlocks := B.notSynchronized
  clear B
  have hl := lv_entry ([.ref TR, .int x0, .int x1]) (n := 3) (Nat.le_of_ble_eq_true rfl)
  rw [lg_entry_eq]
  generalize (lg_sl ([.ref TR, .int x0, .int x1]) ++ List.replicate (3 - (lg_sl ([.ref TR, .int x0, .int x1])).length) Slot.unset).toArray = ls at hl ⊢
  replace hl : lv_has ls 3 [(0, .ref TR), (1, .int x0), (2, .int x1)] := hl
  refine lv_aload_n hx hb dX10_theirGain_0 rfl (lv_at hl 0 rfl) ?_
  refine va_get (D := D) (ci := 10) (v := .ref ME) (C := RX10) (T := TX10) (N := 1) hx hb hts iw_X10_theirGain_X10 hown hK hP 0 rfl rfl 0 (by decide) (hts (.fieldLink RX10 9 "SoldHouse$Trader" "memory" "LSoldHouse$Memory;") (List.mem_of_getElem? (i := 1) rfl)) (fun _ h9 => h9) rfl dX10_theirGain_1 ?_
  refine va_get (D := D) (ci := 3) (v := .ref FL) (C := RX3) (T := TX3) (N := 9) hx hb hts iw_X10_theirGain_X3 hown hK hP 1 rfl rfl 0 (by decide) (hts (.fieldLink RX10 15 "SoldHouse$Memory" "floor" "LSoldHouse$Floor;") (List.mem_of_getElem? (i := 2) rfl)) (fun _ h9 => h9) rfl dX10_theirGain_4 ?_
  refine va_get (D := D) (ci := 0) (v := .ref PL) (C := RX0) (T := TX0) (N := 5) hx hb hts iw_X10_theirGain_X0 hown hK hP 2 rfl rfl 0 (by decide) (hts (.fieldLink RX10 21 "SoldHouse$Floor" "plan" "LSoldHouse$Plan;") (List.mem_of_getElem? (i := 3) rfl)) (fun _ h9 => h9) rfl dX10_theirGain_7 ?_
  refine va_get (D := D) (ci := 5) (v := .ref (aPL 12)) (C := RX5) (T := TX5) (N := 16) hx hb hts iw_X10_theirGain_X5 hown hK hP 3 rfl rfl 12 (by decide) (hts (.fieldLink RX10 33 "SoldHouse$Plan" "them" "[I") (List.mem_of_getElem? (i := 4) rfl)) (fun _ h9 => h9) rfl dX10_theirGain_10 ?_
  refine lv_iload_n hx hb dX10_theirGain_13 rfl (lv_at hl 1 rfl) ?_
  refine va_iald hx hb hK hP 4 0 rfl rfl (zB_in b_x0 (by decide) (by decide)) dX10_theirGain_14 ?_
  refine lv_topi (fun y14 _ => ?_)
  refine lv_aload_n hx hb dX10_theirGain_15 rfl (lv_at hl 0 rfl) ?_
  refine va_get (D := D) (ci := 10) (v := .ref ME) (C := RX10) (T := TX10) (N := 1) hx hb hts iw_X10_theirGain_X10 hown hK hP 0 rfl rfl 0 (by decide) (hts (.fieldLink RX10 9 "SoldHouse$Trader" "memory" "LSoldHouse$Memory;") (List.mem_of_getElem? (i := 1) rfl)) (fun _ h9 => h9) rfl dX10_theirGain_16 ?_
  refine va_get (D := D) (ci := 3) (v := .ref FL) (C := RX3) (T := TX3) (N := 9) hx hb hts iw_X10_theirGain_X3 hown hK hP 1 rfl rfl 0 (by decide) (hts (.fieldLink RX10 15 "SoldHouse$Memory" "floor" "LSoldHouse$Floor;") (List.mem_of_getElem? (i := 2) rfl)) (fun _ h9 => h9) rfl dX10_theirGain_19 ?_
  refine va_get (D := D) (ci := 0) (v := .ref PL) (C := RX0) (T := TX0) (N := 5) hx hb hts iw_X10_theirGain_X0 hown hK hP 2 rfl rfl 0 (by decide) (hts (.fieldLink RX10 21 "SoldHouse$Floor" "plan" "LSoldHouse$Plan;") (List.mem_of_getElem? (i := 3) rfl)) (fun _ h9 => h9) rfl dX10_theirGain_22 ?_
  refine va_get (D := D) (ci := 5) (v := .ref (aPL 12)) (C := RX5) (T := TX5) (N := 16) hx hb hts iw_X10_theirGain_X5 hown hK hP 3 rfl rfl 12 (by decide) (hts (.fieldLink RX10 33 "SoldHouse$Plan" "them" "[I") (List.mem_of_getElem? (i := 4) rfl)) (fun _ h9 => h9) rfl dX10_theirGain_25 ?_
  refine lv_iload_n hx hb dX10_theirGain_28 rfl (lv_at hl 2 rfl) ?_
  refine va_iald hx hb hK hP 4 0 rfl rfl (zB_in b_x1 (by decide) (by decide)) dX10_theirGain_29 ?_
  refine lv_topi (fun y29 _ => ?_)
  refine lv_isub hx hb dX10_theirGain_30 ?_
  refine lv_topi (fun y30 _ => ?_)
  exact W.iret (v := y30) hx hb hr (fun t ht hW => ⟨y30, rfl, trivial, ht⟩) (fun q hq => by cases hq) dX10_theirGain_31
set_option maxHeartbeats 4000000 in
set_option maxRecDepth 100000 in
theorem c_X10_gainOf (l : Launch) (D : va_G) (cI : ClassId) (cB : ClassId) (cL : ClassId) (cZ : ClassId) (cG : ClassId) (TR : Nat) (x0 : Int32) (x1 : Int32) (ME : Nat) (FL : Nat) (aME : Nat → Nat) (ME_oldest : Int32) (ME_done : Int32) (ME_undone : Int32) (PL : Nat) (aFL : Nat → Nat) (FL_parting : Int32) (PL_rooms : Int32) (aPL : Nat → Nat) (PL_doors : Int32) (PL_things : Int32) (FO : Nat) (PL_draw : Int32) (PL_drawTold : Int32) (PL_us : Nat → Int32) (PL_them : Nat → Int32) (b_x0 : zB x0 0 5) (b_x1 : zB x1 0 5) (b_ME_oldest : zB ME_oldest 0 40) (b_ME_done : zB ME_done 0 40) (b_ME_undone : zB ME_undone 0 40) (b_PL_rooms : zB PL_rooms 0 8) (b_PL_doors : zB PL_doors 0 12) (b_PL_things : zB PL_things 0 6) : Met l yX10_gainOf wsX10_gainOf ({ frames := 1, cells := 0, slots := 0, locals := 22 }) (xr D [(cI, .int), (cB, .byte), (cL, .long), (cZ, .boolean), (cG, .array .int)] [(TR, .inr (10, oX10 ME)), (ME, .inr (3, oX3 FL aME ME_oldest ME_done ME_undone)), (FL, .inr (0, oX0 PL aFL FL_parting)), (PL, .inr (5, oX5 FO aPL PL_rooms PL_doors PL_things PL_draw PL_drawTold)), ((aPL 11), .inl (cI, 6, .inl PL_us)), ((aPL 12), .inl (cI, 6, .inl PL_them))] [.ref TR, .int x0, .int x1]) (vp_Si (fun r => True)) 0 0 (fun _ => False) := by
  refine Met.ofW (cc := cX10_gainOf) (maxL := 3) (ret := (some .int)) (by decide) rfl ?_
  intro p e s m args below meth c s₁ B hml hv
  obtain ⟨rfl, hP, hK⟩ := hv
  have hx := B.exec
  have hb := B.bytes
  have hr := B.returns
  have hts := atoms_spec (ws := wsX10_gainOf) B.pre
  have hown : s.vm.findClass RX10 = some m.cls := findClass_of_methodNamed B.named
  have hlocks := B.notSynchronized
  clear B
  have hl := lv_entry ([.ref TR, .int x0, .int x1]) (n := 3) (Nat.le_of_ble_eq_true rfl)
  rw [lg_entry_eq]
  generalize (lg_sl ([.ref TR, .int x0, .int x1]) ++ List.replicate (3 - (lg_sl ([.ref TR, .int x0, .int x1])).length) Slot.unset).toArray = ls at hl ⊢
  replace hl : lv_has ls 3 [(0, .ref TR), (1, .int x0), (2, .int x1)] := hl
  refine lv_aload_n hx hb dX10_gainOf_0 rfl (lv_at hl 0 rfl) ?_
  refine lv_iload_n hx hb dX10_gainOf_1 rfl (lv_at hl 1 rfl) ?_
  refine lv_iload_n hx hb dX10_gainOf_2 rfl (lv_at hl 2 rfl) ?_
  have hPc := hP.sub (ws' := [(TR, .inr (10, oX10 ME)), (ME, .inr (3, oX3 FL aME ME_oldest ME_done ME_undone)), (FL, .inr (0, oX0 PL aFL FL_parting)), (PL, .inr (5, oX5 FO aPL PL_rooms PL_doors PL_things PL_draw PL_drawTold)), ((aPL 11), .inl (cI, 6, .inl PL_us))]) [0, 1, 2, 3, 4] rfl
  refine vp_callSi (va_runV (As := [.int x0, .int x1]) (rest := []) ⟨hx, hb, hml, hown, hts⟩ (c_X10_ourGain l D cI cB cL cZ cG TR x0 x1 ME FL aME ME_oldest ME_done ME_undone PL aFL FL_parting PL_rooms aPL PL_doors PL_things FO PL_draw PL_drawTold PL_us b_x0 b_x1 b_ME_oldest b_ME_done b_ME_undone b_PL_rooms b_PL_doors b_PL_things) (cwV 2 hts gX10_gainOf_X10_ourGain rfl rfl rfl (by decide +kernel) ⟨Nat.le_of_ble_eq_true rfl, Nat.le_of_ble_eq_true rfl⟩) ⟨xr_blind, va_recv hK hP (ci := 10) (q0 := 0) rfl rfl, fun U hU hW => xr_mk hU hW hPc hK⟩ rfl rfl hl.1 rfl (lv_room (Nat.le_of_ble_eq_true rfl)) dX10_gainOf_3 ⟨Nat.le_of_ble_eq_true rfl, Nat.le_of_ble_eq_true rfl⟩).run (fun r3 hr3 => ?_)
  clear hPc
  clear hr3
  refine lv_aload_n hx hb dX10_gainOf_6 rfl (lv_at hl 0 rfl) ?_
  refine lv_iload_n hx hb dX10_gainOf_7 rfl (lv_at hl 1 rfl) ?_
  refine lv_iload_n hx hb dX10_gainOf_8 rfl (lv_at hl 2 rfl) ?_
  have hPc := hP.sub (ws' := [(TR, .inr (10, oX10 ME)), (ME, .inr (3, oX3 FL aME ME_oldest ME_done ME_undone)), (FL, .inr (0, oX0 PL aFL FL_parting)), (PL, .inr (5, oX5 FO aPL PL_rooms PL_doors PL_things PL_draw PL_drawTold)), ((aPL 12), .inl (cI, 6, .inl PL_them))]) [0, 1, 2, 3, 5] rfl
  refine vp_callSi (va_runV (As := [.int x0, .int x1]) (rest := [.int r3]) ⟨hx, hb, hml, hown, hts⟩ (c_X10_theirGain l D cI cB cL cZ cG TR x0 x1 ME FL aME ME_oldest ME_done ME_undone PL aFL FL_parting PL_rooms aPL PL_doors PL_things FO PL_draw PL_drawTold PL_them b_x0 b_x1 b_ME_oldest b_ME_done b_ME_undone b_PL_rooms b_PL_doors b_PL_things) (cwV 2 hts gX10_gainOf_X10_theirGain rfl rfl rfl (by decide +kernel) ⟨Nat.le_of_ble_eq_true rfl, Nat.le_of_ble_eq_true rfl⟩) ⟨xr_blind, va_recv hK hP (ci := 10) (q0 := 0) rfl rfl, fun U hU hW => xr_mk hU hW hPc hK⟩ rfl rfl hl.1 rfl (lv_room (Nat.le_of_ble_eq_true rfl)) dX10_gainOf_9 ⟨Nat.le_of_ble_eq_true rfl, Nat.le_of_ble_eq_true rfl⟩).run (fun r9 hr9 => ?_)
  clear hPc
  clear hr9
  refine lv_iadd hx hb dX10_gainOf_12 ?_
  refine lv_topi (fun y12 _ => ?_)
  exact W.iret (v := y12) hx hb hr (fun t ht hW => ⟨y12, rfl, trivial, ht⟩) (fun q hq => by cases hq) dX10_gainOf_13
set_option maxHeartbeats 4000000 in
set_option maxRecDepth 100000 in
theorem c_X10_isFair (l : Launch) (D : va_G) (cI : ClassId) (cB : ClassId) (cL : ClassId) (cZ : ClassId) (cG : ClassId) (TR : Nat) (x0 : Int32) (x1 : Int32) (ME : Nat) (FL : Nat) (aME : Nat → Nat) (ME_oldest : Int32) (ME_done : Int32) (ME_undone : Int32) (PL : Nat) (aFL : Nat → Nat) (FL_parting : Int32) (PL_rooms : Int32) (aPL : Nat → Nat) (PL_doors : Int32) (PL_things : Int32) (FO : Nat) (PL_draw : Int32) (PL_drawTold : Int32) (ME_now : Nat → Int32) (PL_us : Nat → Int32) (PL_them : Nat → Int32) (b_x0 : zB x0 0 5) (b_x1 : zB x1 0 5) (b_ME_oldest : zB ME_oldest 0 40) (b_ME_done : zB ME_done 0 40) (b_ME_undone : zB ME_undone 0 40) (b_PL_rooms : zB PL_rooms 0 8) (b_PL_doors : zB PL_doors 0 12) (b_PL_things : zB PL_things 0 6) (s_ME_now_0 : zA ME_now 0 12 0 7) : Met l yX10_isFair wsX10_isFair ({ frames := 1, cells := 0, slots := 0, locals := 22 }) (xr D [(cI, .int), (cB, .byte), (cL, .long), (cZ, .boolean), (cG, .array .int)] [(TR, .inr (10, oX10 ME)), (ME, .inr (3, oX3 FL aME ME_oldest ME_done ME_undone)), (FL, .inr (0, oX0 PL aFL FL_parting)), (PL, .inr (5, oX5 FO aPL PL_rooms PL_doors PL_things PL_draw PL_drawTold)), ((aME 1), .inl (cI, 32, .inl ME_now)), ((aPL 11), .inl (cI, 6, .inl PL_us)), ((aPL 12), .inl (cI, 6, .inl PL_them))] [.ref TR, .int x0, .int x1]) (vp_Si (fun r => zB r 0 1)) 0 0 (fun _ => False) := by
  refine Met.ofW (cc := cX10_isFair) (maxL := 4) (ret := (some .boolean)) (by decide) rfl ?_
  intro p e s m args below meth c s₁ B hml hv
  obtain ⟨rfl, hP, hK⟩ := hv
  have hx := B.exec
  have hb := B.bytes
  have hr := B.returns
  have hts := atoms_spec (ws := wsX10_isFair) B.pre
  have hown : s.vm.findClass RX10 = some m.cls := findClass_of_methodNamed B.named
  have hlocks := B.notSynchronized
  clear B
  have hl := lv_entry ([.ref TR, .int x0, .int x1]) (n := 4) (Nat.le_of_ble_eq_true rfl)
  rw [lg_entry_eq]
  generalize (lg_sl ([.ref TR, .int x0, .int x1]) ++ List.replicate (4 - (lg_sl ([.ref TR, .int x0, .int x1])).length) Slot.unset).toArray = ls at hl ⊢
  replace hl : lv_has ls 4 [(0, .ref TR), (1, .int x0), (2, .int x1)] := hl
  refine lv_aload_n hx hb dX10_isFair_0 rfl (lv_at hl 0 rfl) ?_
  refine va_get (D := D) (ci := 10) (v := .ref ME) (C := RX10) (T := TX10) (N := 1) hx hb hts iw_X10_isFair_X10 hown hK hP 0 rfl rfl 0 (by decide) (hts (.fieldLink RX10 9 "SoldHouse$Trader" "memory" "LSoldHouse$Memory;") (List.mem_of_getElem? (i := 1) rfl)) (fun _ h9 => h9) rfl dX10_isFair_1 ?_
  refine va_get (D := D) (ci := 3) (v := .ref FL) (C := RX3) (T := TX3) (N := 9) hx hb hts iw_X10_isFair_X3 hown hK hP 1 rfl rfl 0 (by decide) (hts (.fieldLink RX10 15 "SoldHouse$Memory" "floor" "LSoldHouse$Floor;") (List.mem_of_getElem? (i := 2) rfl)) (fun _ h9 => h9) rfl dX10_isFair_4 ?_
  refine va_get (D := D) (ci := 0) (v := .ref PL) (C := RX0) (T := TX0) (N := 5) hx hb hts iw_X10_isFair_X0 hown hK hP 2 rfl rfl 0 (by decide) (hts (.fieldLink RX10 21 "SoldHouse$Floor" "plan" "LSoldHouse$Plan;") (List.mem_of_getElem? (i := 3) rfl)) (fun _ h9 => h9) rfl dX10_isFair_7 ?_
  refine va_get (D := D) (ci := 5) (v := .int PL_things) (C := RX5) (T := TX5) (N := 16) hx hb hts iw_X10_isFair_X5 hown hK hP 3 rfl rfl 6 (by decide) (hts (.fieldLink RX10 27 "SoldHouse$Plan" "things" "I") (List.mem_of_getElem? (i := 4) rfl)) (fun _ h9 => h9) rfl dX10_isFair_10 ?_
  refine lv_istore_n (lv' := [(3, .int PL_things), (0, .ref TR), (1, .int x0), (2, .int x1)]) hx hb dX10_isFair_13 rfl hl (by decide) rfl (fun ls hl => ?_)
  refine lv_iload_n hx hb dX10_isFair_14 rfl (lv_at hl 2 rfl) ?_
  refine lv_iload_n hx hb dX10_isFair_15 rfl (lv_at hl 0 rfl) ?_
  refine lv_icmp_ge (tgt := 40) hx hb dX10_isFair_16 (by decide) (fun c16 => ?_) (fun c16 => ?_)
  · have bx16t_PL_things : zB PL_things 0 5 := zB_leu (ze c16) b_PL_things b_x0 (by decide)
    refine lv_iconst (v := 0) hx hb dX10_isFair_40 (by decide) ?_
    exact W.zret (v := 0) (ty := .boolean) hx hb hr (by decide) (fun t ht hW => ⟨0, rfl, (zB_w (show zB 0 0 0 from ⟨by decide, by decide⟩) (by decide) (by decide)), ht⟩) (fun q hq => by cases hq) dX10_isFair_41
  · have by16f_PL_things : zB PL_things 1 6 := zB_ltv (zf c16) b_x0 b_PL_things (by decide)
    refine lv_iload_n hx hb dX10_isFair_19 rfl (lv_at hl 3 rfl) ?_
    refine lv_iload_n hx hb dX10_isFair_20 rfl (lv_at hl 0 rfl) ?_
    refine lv_icmp_ge (tgt := 40) hx hb dX10_isFair_21 (by decide) (fun c21 => ?_) (fun c21 => ?_)
    · have bx21t_PL_things : zB PL_things 1 5 := zB_leu (ze c21) by16f_PL_things b_x1 (by decide)
      have by21t_x1 : zB x1 1 5 := zB_lev (ze c21) bx21t_PL_things b_x1 (by decide)
      refine lv_iconst (v := 0) hx hb dX10_isFair_40 (by decide) ?_
      exact W.zret (v := 0) (ty := .boolean) hx hb hr (by decide) (fun t ht hW => ⟨0, rfl, (zB_w (show zB 0 0 0 from ⟨by decide, by decide⟩) (by decide) (by decide)), ht⟩) (fun q hq => by cases hq) dX10_isFair_41
    · refine lv_aload_n hx hb dX10_isFair_24 rfl (lv_at hl 1 rfl) ?_
      refine lv_iload_n hx hb dX10_isFair_25 rfl (lv_at hl 2 rfl) ?_
      have hPc := hP.sub (ws' := [(TR, .inr (10, oX10 ME)), (ME, .inr (3, oX3 FL aME ME_oldest ME_done ME_undone)), ((aME 1), .inl (cI, 32, .inl ME_now))]) [0, 1, 4] rfl
      refine vp_callSi (va_runV (As := [.int x0]) (rest := []) ⟨hx, hb, hml, hown, hts⟩ (c_X10_isOurs l D cI cB cL cZ cG TR x0 ME FL aME ME_oldest ME_done ME_undone ME_now b_x0 b_ME_oldest b_ME_done b_ME_undone s_ME_now_0) (cwV 1 hts gX10_isFair_X10_isOurs rfl rfl rfl (by decide +kernel) ⟨Nat.le_of_ble_eq_true rfl, Nat.le_of_ble_eq_true rfl⟩) ⟨xr_blind, va_recv hK hP (ci := 10) (q0 := 0) rfl rfl, fun U hU hW => xr_mk hU hW hPc hK⟩ rfl rfl hl.1 rfl (lv_room (Nat.le_of_ble_eq_true rfl)) dX10_isFair_26 ⟨Nat.le_of_ble_eq_true rfl, Nat.le_of_ble_eq_true rfl⟩).run (fun r26 hr26 => ?_)
      clear hPc
      refine lv_if_eq (tgt := 40) hx hb dX10_isFair_29 (by decide) (fun c29 => ?_) (fun c29 => ?_)
      · have be29t_r26 : zB r26 0 0 := zB_eq c29 hr26 (show zB 0 0 0 from ⟨by decide, by decide⟩) (by decide) (by decide)
        refine lv_iconst (v := 0) hx hb dX10_isFair_40 (by decide) ?_
        exact W.zret (v := 0) (ty := .boolean) hx hb hr (by decide) (fun t ht hW => ⟨0, rfl, (zB_w (show zB 0 0 0 from ⟨by decide, by decide⟩) (by decide) (by decide)), ht⟩) (fun q hq => by cases hq) dX10_isFair_41
      · have bn29f_r26 : zB r26 1 1 := zB_neL c29 hr26 (show zB 0 0 0 from ⟨by decide, by decide⟩) (by decide)
        refine lv_aload_n hx hb dX10_isFair_32 rfl (lv_at hl 1 rfl) ?_
        refine lv_iload_n hx hb dX10_isFair_33 rfl (lv_at hl 3 rfl) ?_
        have hPc := hP.sub (ws' := [(TR, .inr (10, oX10 ME)), (ME, .inr (3, oX3 FL aME ME_oldest ME_done ME_undone)), ((aME 1), .inl (cI, 32, .inl ME_now))]) [0, 1, 4] rfl
        refine vp_callSi (va_runV (As := [.int x1]) (rest := []) ⟨hx, hb, hml, hown, hts⟩ (c_X10_isOurs l D cI cB cL cZ cG TR x1 ME FL aME ME_oldest ME_done ME_undone ME_now b_x1 b_ME_oldest b_ME_done b_ME_undone s_ME_now_0) (cwV 1 hts gX10_isFair_X10_isOurs rfl rfl rfl (by decide +kernel) ⟨Nat.le_of_ble_eq_true rfl, Nat.le_of_ble_eq_true rfl⟩) ⟨xr_blind, va_recv hK hP (ci := 10) (q0 := 0) rfl rfl, fun U hU hW => xr_mk hU hW hPc hK⟩ rfl rfl hl.1 rfl (lv_room (Nat.le_of_ble_eq_true rfl)) dX10_isFair_34 ⟨Nat.le_of_ble_eq_true rfl, Nat.le_of_ble_eq_true rfl⟩).run (fun r34 hr34 => ?_)
        clear hPc
        refine lv_if_eq (tgt := 42) hx hb dX10_isFair_37 (by decide) (fun c37 => ?_) (fun c37 => ?_)
        · have be37t_r34 : zB r34 0 0 := zB_eq c37 hr34 (show zB 0 0 0 from ⟨by decide, by decide⟩) (by decide) (by decide)
          refine lv_aload_n hx hb dX10_isFair_42 rfl (lv_at hl 1 rfl) ?_
          refine lv_iload_n hx hb dX10_isFair_43 rfl (lv_at hl 2 rfl) ?_
          refine lv_iload_n hx hb dX10_isFair_44 rfl (lv_at hl 3 rfl) ?_
          have hPc := hP.sub (ws' := [(TR, .inr (10, oX10 ME)), (ME, .inr (3, oX3 FL aME ME_oldest ME_done ME_undone)), (FL, .inr (0, oX0 PL aFL FL_parting)), (PL, .inr (5, oX5 FO aPL PL_rooms PL_doors PL_things PL_draw PL_drawTold)), ((aPL 11), .inl (cI, 6, .inl PL_us))]) [0, 1, 2, 3, 5] rfl
          refine vp_callSi (va_runV (As := [.int x0, .int x1]) (rest := []) ⟨hx, hb, hml, hown, hts⟩ (c_X10_ourGain l D cI cB cL cZ cG TR x0 x1 ME FL aME ME_oldest ME_done ME_undone PL aFL FL_parting PL_rooms aPL PL_doors PL_things FO PL_draw PL_drawTold PL_us b_x0 b_x1 b_ME_oldest b_ME_done b_ME_undone b_PL_rooms b_PL_doors (zB_w by16f_PL_things (by decide) (by decide))) (cwV 2 hts gX10_isFair_X10_ourGain rfl rfl rfl (by decide +kernel) ⟨Nat.le_of_ble_eq_true rfl, Nat.le_of_ble_eq_true rfl⟩) ⟨xr_blind, va_recv hK hP (ci := 10) (q0 := 0) rfl rfl, fun U hU hW => xr_mk hU hW hPc hK⟩ rfl rfl hl.1 rfl (lv_room (Nat.le_of_ble_eq_true rfl)) dX10_isFair_45 ⟨Nat.le_of_ble_eq_true rfl, Nat.le_of_ble_eq_true rfl⟩).run (fun r45 hr45 => ?_)
          clear hPc
          clear hr45
          refine lv_if_lt (tgt := 64) hx hb dX10_isFair_48 (by decide) (fun c48 => ?_) (fun c48 => ?_)
          · have bx48t_r45 : zB r45 (-2147483648) (-1) := zB_ltu (zl c48) (zB_top r45) (show zB 0 0 0 from ⟨by decide, by decide⟩) (by decide)
            refine lv_iconst (v := 0) hx hb dX10_isFair_64 (by decide) ?_
            exact W.zret (v := 0) (ty := .boolean) hx hb hr (by decide) (fun t ht hW => ⟨0, rfl, (zB_w (show zB 0 0 0 from ⟨by decide, by decide⟩) (by decide) (by decide)), ht⟩) (fun q hq => by cases hq) dX10_isFair_65
          · have by48f_r45 : zB r45 0 2147483647 := zB_lev (zg c48) (show zB 0 0 0 from ⟨by decide, by decide⟩) (zB_top r45) (by decide)
            refine lv_aload_n hx hb dX10_isFair_51 rfl (lv_at hl 1 rfl) ?_
            refine lv_iload_n hx hb dX10_isFair_52 rfl (lv_at hl 2 rfl) ?_
            refine lv_iload_n hx hb dX10_isFair_53 rfl (lv_at hl 3 rfl) ?_
            have hPc := hP.sub (ws' := [(TR, .inr (10, oX10 ME)), (ME, .inr (3, oX3 FL aME ME_oldest ME_done ME_undone)), (FL, .inr (0, oX0 PL aFL FL_parting)), (PL, .inr (5, oX5 FO aPL PL_rooms PL_doors PL_things PL_draw PL_drawTold)), ((aPL 12), .inl (cI, 6, .inl PL_them))]) [0, 1, 2, 3, 6] rfl
            refine vp_callSi (va_runV (As := [.int x0, .int x1]) (rest := []) ⟨hx, hb, hml, hown, hts⟩ (c_X10_theirGain l D cI cB cL cZ cG TR x0 x1 ME FL aME ME_oldest ME_done ME_undone PL aFL FL_parting PL_rooms aPL PL_doors PL_things FO PL_draw PL_drawTold PL_them b_x0 b_x1 b_ME_oldest b_ME_done b_ME_undone b_PL_rooms b_PL_doors (zB_w by16f_PL_things (by decide) (by decide))) (cwV 2 hts gX10_isFair_X10_theirGain rfl rfl rfl (by decide +kernel) ⟨Nat.le_of_ble_eq_true rfl, Nat.le_of_ble_eq_true rfl⟩) ⟨xr_blind, va_recv hK hP (ci := 10) (q0 := 0) rfl rfl, fun U hU hW => xr_mk hU hW hPc hK⟩ rfl rfl hl.1 rfl (lv_room (Nat.le_of_ble_eq_true rfl)) dX10_isFair_54 ⟨Nat.le_of_ble_eq_true rfl, Nat.le_of_ble_eq_true rfl⟩).run (fun r54 hr54 => ?_)
            clear hPc
            clear hr54
            refine lv_if_lt (tgt := 64) hx hb dX10_isFair_57 (by decide) (fun c57 => ?_) (fun c57 => ?_)
            · have bx57t_r54 : zB r54 (-2147483648) (-1) := zB_ltu (zl c57) (zB_top r54) (show zB 0 0 0 from ⟨by decide, by decide⟩) (by decide)
              refine lv_iconst (v := 0) hx hb dX10_isFair_64 (by decide) ?_
              exact W.zret (v := 0) (ty := .boolean) hx hb hr (by decide) (fun t ht hW => ⟨0, rfl, (zB_w (show zB 0 0 0 from ⟨by decide, by decide⟩) (by decide) (by decide)), ht⟩) (fun q hq => by cases hq) dX10_isFair_65
            · have by57f_r54 : zB r54 0 2147483647 := zB_lev (zg c57) (show zB 0 0 0 from ⟨by decide, by decide⟩) (zB_top r54) (by decide)
              refine lv_iconst (v := 1) hx hb dX10_isFair_60 (by decide) ?_
              refine lv_goto (tgt := 65) hx hb dX10_isFair_61 (by decide) ?_
              exact W.zret (v := 1) (ty := .boolean) hx hb hr (by decide) (fun t ht hW => ⟨1, rfl, (zB_w (show zB 1 1 1 from ⟨by decide, by decide⟩) (by decide) (by decide)), ht⟩) (fun q hq => by cases hq) dX10_isFair_65
        · have bn37f_r34 : zB r34 1 1 := zB_neL c37 hr34 (show zB 0 0 0 from ⟨by decide, by decide⟩) (by decide)
          refine lv_iconst (v := 0) hx hb dX10_isFair_40 (by decide) ?_
          exact W.zret (v := 0) (ty := .boolean) hx hb hr (by decide) (fun t ht hW => ⟨0, rfl, (zB_w (show zB 0 0 0 from ⟨by decide, by decide⟩) (by decide) (by decide)), ht⟩) (fun q hq => by cases hq) dX10_isFair_41
set_option maxHeartbeats 4000000 in
set_option maxRecDepth 100000 in
theorem c_X10_bestPair (l : Launch) (D : va_G) (cI : ClassId) (cB : ClassId) (cL : ClassId) (cZ : ClassId) (cG : ClassId) (TR : Nat) (ME : Nat) (FL : Nat) (aME : Nat → Nat) (ME_oldest : Int32) (ME_done : Int32) (ME_undone : Int32) (PL : Nat) (aFL : Nat → Nat) (FL_parting : Int32) (PL_rooms : Int32) (aPL : Nat → Nat) (PL_doors : Int32) (PL_things : Int32) (FO : Nat) (PL_draw : Int32) (PL_drawTold : Int32) (ME_now : Nat → Int32) (PL_us : Nat → Int32) (PL_them : Nat → Int32) (b_ME_oldest : zB ME_oldest 0 40) (b_ME_done : zB ME_done 0 40) (b_ME_undone : zB ME_undone 0 40) (b_PL_rooms : zB PL_rooms 0 8) (b_PL_doors : zB PL_doors 0 12) (b_PL_things : zB PL_things 0 6) (s_ME_now_0 : zA ME_now 0 12 0 7) : Met l yX10_bestPair wsX10_bestPair ({ frames := 2, cells := 0, slots := 0, locals := 45 }) (xr D [(cI, .int), (cB, .byte), (cL, .long), (cZ, .boolean), (cG, .array .int)] [(TR, .inr (10, oX10 ME)), (ME, .inr (3, oX3 FL aME ME_oldest ME_done ME_undone)), (FL, .inr (0, oX0 PL aFL FL_parting)), (PL, .inr (5, oX5 FO aPL PL_rooms PL_doors PL_things PL_draw PL_drawTold)), ((aME 1), .inl (cI, 32, .inl ME_now)), ((aPL 11), .inl (cI, 6, .inl PL_us)), ((aPL 12), .inl (cI, 6, .inl PL_them))] [.ref TR]) (vp_Si (fun r => zB r (-1) 35)) 0 0 (fun _ => False) := by
  refine Met.ofW (cc := cX10_bestPair) (maxL := 6) (ret := (some .int)) (by decide) rfl ?_
  intro p e s m args below meth c s₁ B hml hv
  obtain ⟨rfl, hP, hK⟩ := hv
  have hx := B.exec
  have hb := B.bytes
  have hr := B.returns
  have hts := atoms_spec (ws := wsX10_bestPair) B.pre
  have hown : s.vm.findClass RX10 = some m.cls := findClass_of_methodNamed B.named
  have hlocks := B.notSynchronized
  clear B
  have hl := lv_entry ([.ref TR]) (n := 6) (Nat.le_of_ble_eq_true rfl)
  rw [lg_entry_eq]
  generalize (lg_sl ([.ref TR]) ++ List.replicate (6 - (lg_sl ([.ref TR])).length) Slot.unset).toArray = ls at hl ⊢
  replace hl : lv_has ls 6 [(0, .ref TR)] := hl
  refine zz_abs (R := ({ frames := 2, cells := 0, slots := 0, locals := 45 } : Room)) (fun Q up => ?_)
  refine lv_iconst (v := (-1)) hx hb dX10_bestPair_0 (by decide) ?_
  refine lv_istore_n (lv' := [(1, .int (-1)), (0, .ref TR)]) hx hb dX10_bestPair_1 rfl hl (by decide) rfl (fun ls hl => ?_)
  refine lv_iconst (v := (-1)) hx hb dX10_bestPair_2 (by decide) ?_
  refine lv_istore_n (lv' := [(2, .int (-1)), (1, .int (-1)), (0, .ref TR)]) hx hb dX10_bestPair_3 rfl hl (by decide) rfl (fun ls hl => ?_)
  refine lv_iconst (v := 0) hx hb dX10_bestPair_4 (by decide) ?_
  have j6 : ∀ (n6 : Nat) (ls : Array Slot) (v6_3 : Int32) (v6_2 : Int32) (v6_1 : Int32), zB v6_3 0 36 → zB v6_1 (-1) 35 → zA ME_now 0 12 0 7 → (36 + 1 - v6_3.toInt) ≤ (n6 : Int) → lv_has ls 6 [(3, .int v6_3), (2, .int v6_2), (1, .int v6_1), (0, .ref TR)] → W p l e ({ frames := 2, cells := 0, slots := 0, locals := 45 } : Room) s m ([.ref TR] : List Value).toArray below meth c s.heap [] 0 0 Q (F0 m 6 ls []) := by
    intro n6
    induction n6 with
    | zero => intro ls v6_3 v6_2 v6_1 bv6_3_k6 bv6_1_k6 sME_now_0_k6 hm6 hl; exact zM_u0 bv6_3_k6 hm6
    | succ n6 ih6 =>
      intro ls v6_3 v6_2 v6_1 bv6_3_k6 bv6_1_k6 sME_now_0_k6 hm6 hl
      refine lv_iload_n hx hb dX10_bestPair_6 rfl (lv_at hl 0 rfl) ?_
      refine lv_bipush (v := 36) hx hb dX10_bestPair_7 (by decide) ?_
      refine lv_icmp_ge (tgt := 64) hx hb dX10_bestPair_9 (by decide) (fun c9 => ?_) (fun c9 => ?_)
      · have by9t_v6_3 : zB v6_3 36 36 := zB_lev (ze c9) (show zB 36 36 36 from ⟨by decide, by decide⟩) bv6_3_k6 (by decide)
        refine lv_iload_n hx hb dX10_bestPair_64 rfl (lv_at hl 2 rfl) ?_
        exact up _ _ _ (W.iret (v := v6_1) hx hb hr (fun t ht hW => ⟨v6_1, rfl, bv6_1_k6, ht⟩) (fun q hq => by cases hq) dX10_bestPair_65)
      · have bx9f_v6_3 : zB v6_3 0 35 := zB_ltu (zf c9) bv6_3_k6 (show zB 36 36 36 from ⟨by decide, by decide⟩) (by decide)
        refine lv_iload_n hx hb dX10_bestPair_12 rfl (lv_at hl 0 rfl) ?_
        refine lv_bipush (v := 6) hx hb dX10_bestPair_13 (by decide) ?_
        refine lv_idiv hx hb dX10_bestPair_15 (by decide) ?_
        refine zi_top (a := 0) (b := 5) (zB_div bx9f_v6_3 (show zB 6 6 6 from ⟨by decide, by decide⟩) (by decide) (by decide) (by decide) (by decide)) (fun y15 by15 => ?_)
        refine lv_istore (lv' := [(4, .int y15), (3, .int v6_3), (2, .int v6_2), (1, .int v6_1), (0, .ref TR)]) hx hb dX10_bestPair_16 hl (by decide) rfl (fun ls hl => ?_)
        refine lv_iload_n hx hb dX10_bestPair_18 rfl (lv_at hl 1 rfl) ?_
        refine lv_bipush (v := 6) hx hb dX10_bestPair_19 (by decide) ?_
        refine lv_irem hx hb dX10_bestPair_21 (by decide) ?_
        refine zi_top (a := 0) (b := 5) (zB_rem bx9f_v6_3 (show zB 6 6 6 from ⟨by decide, by decide⟩) (by decide) (by decide) (by decide)) (fun y21 by21 => ?_)
        refine lv_istore (lv' := [(5, .int y21), (4, .int y15), (3, .int v6_3), (2, .int v6_2), (1, .int v6_1), (0, .ref TR)]) hx hb dX10_bestPair_22 hl (by decide) rfl (fun ls hl => ?_)
        refine lv_aload_n hx hb dX10_bestPair_24 rfl (lv_at hl 5 rfl) ?_
        refine lv_iload hx hb dX10_bestPair_25 (lv_at hl 1 rfl) ?_
        refine lv_iload hx hb dX10_bestPair_27 (lv_at hl 0 rfl) ?_
        have hPc := hP.sub (ws' := [(TR, .inr (10, oX10 ME)), (ME, .inr (3, oX3 FL aME ME_oldest ME_done ME_undone)), (FL, .inr (0, oX0 PL aFL FL_parting)), (PL, .inr (5, oX5 FO aPL PL_rooms PL_doors PL_things PL_draw PL_drawTold)), ((aME 1), .inl (cI, 32, .inl ME_now)), ((aPL 11), .inl (cI, 6, .inl PL_us)), ((aPL 12), .inl (cI, 6, .inl PL_them))]) [0, 1, 2, 3, 4, 5, 6] rfl
        refine vp_callSi (va_runV (As := [.int y15, .int y21]) (rest := []) ⟨hx, hb, hml, hown, hts⟩ (c_X10_isFair l D cI cB cL cZ cG TR y15 y21 ME FL aME ME_oldest ME_done ME_undone PL aFL FL_parting PL_rooms aPL PL_doors PL_things FO PL_draw PL_drawTold ME_now PL_us PL_them by15 by21 b_ME_oldest b_ME_done b_ME_undone b_PL_rooms b_PL_doors b_PL_things sME_now_0_k6) (cwV 2 hts gX10_bestPair_X10_isFair rfl rfl rfl (by decide +kernel) ⟨Nat.le_of_ble_eq_true rfl, Nat.le_of_ble_eq_true rfl⟩) ⟨xr_blind, va_recv hK hP (ci := 10) (q0 := 0) rfl rfl, fun U hU hW => xr_mk hU hW hPc hK⟩ rfl rfl hl.1 rfl (lv_room (Nat.le_of_ble_eq_true rfl)) dX10_bestPair_29 ⟨Nat.le_of_ble_eq_true rfl, Nat.le_of_ble_eq_true rfl⟩).run (fun r29 hr29 => ?_)
        clear hPc
        have j58 : ∀ (ls : Array Slot) (v58_2 : Int32) (v58_1 : Int32), zB v58_1 (-1) 35 → zA ME_now 0 12 0 7 → lv_has ls 6 [(5, .int y21), (4, .int y15), (3, .int v6_3), (2, .int v58_2), (1, .int v58_1), (0, .ref TR)] → W p l e ({ frames := 2, cells := 0, slots := 0, locals := 45 } : Room) s m ([.ref TR] : List Value).toArray below meth c s.heap [] 0 0 Q (F0 m 58 ls []) := by
          intro ls v58_2 v58_1 bv58_1_k58 sME_now_0_k58 hl
          obtain ⟨y58, by58, ry58, ey58⟩ := zi_inc (x := v6_3) (k := 1) (a := 1) (b := 36) bx9f_v6_3 (by decide) (by decide) (by decide) (by decide) (by decide)
          refine lv_iinc (v := y58) (lv' := [(3, .int y58), (5, .int y21), (4, .int y15), (2, .int v58_2), (1, .int v58_1), (0, .ref TR)]) hx hb dX10_bestPair_58 hl (k := 2) rfl ey58 (by decide) rfl (fun ls hl => ?_)
          refine lv_goto (tgt := 6) hx hb dX10_bestPair_61 (by decide) ?_
          exact ih6 ls y58 v58_2 v58_1 (zB_w by58 (by decide) (by decide)) bv58_1_k58 sME_now_0_k58 (zM_us (k := 1) hm6 ry58 (by decide)) (lv_sub hl [0, 3, 4, 5] rfl)
        refine lv_if_eq (tgt := 58) hx hb dX10_bestPair_32 (by decide) (fun c32 => ?_) (fun c32 => ?_)
        · have be32t_r29 : zB r29 0 0 := zB_eq c32 hr29 (show zB 0 0 0 from ⟨by decide, by decide⟩) (by decide) (by decide)
          exact j58 ls v6_2 v6_1 bv6_1_k6 sME_now_0_k6 (lv_sub hl [0, 1, 2, 3, 4, 5] rfl)
        · have bn32f_r29 : zB r29 1 1 := zB_neL c32 hr29 (show zB 0 0 0 from ⟨by decide, by decide⟩) (by decide)
          refine lv_aload_n hx hb dX10_bestPair_35 rfl (lv_at hl 5 rfl) ?_
          refine lv_iload hx hb dX10_bestPair_36 (lv_at hl 1 rfl) ?_
          refine lv_iload hx hb dX10_bestPair_38 (lv_at hl 0 rfl) ?_
          have hPc := hP.sub (ws' := [(TR, .inr (10, oX10 ME)), (ME, .inr (3, oX3 FL aME ME_oldest ME_done ME_undone)), (FL, .inr (0, oX0 PL aFL FL_parting)), (PL, .inr (5, oX5 FO aPL PL_rooms PL_doors PL_things PL_draw PL_drawTold)), ((aPL 11), .inl (cI, 6, .inl PL_us)), ((aPL 12), .inl (cI, 6, .inl PL_them))]) [0, 1, 2, 3, 5, 6] rfl
          refine vp_callSi (va_runV (As := [.int y15, .int y21]) (rest := []) ⟨hx, hb, hml, hown, hts⟩ (c_X10_gainOf l D cI cB cL cZ cG TR y15 y21 ME FL aME ME_oldest ME_done ME_undone PL aFL FL_parting PL_rooms aPL PL_doors PL_things FO PL_draw PL_drawTold PL_us PL_them by15 by21 b_ME_oldest b_ME_done b_ME_undone b_PL_rooms b_PL_doors b_PL_things) (cwV 2 hts gX10_bestPair_X10_gainOf rfl rfl rfl (by decide +kernel) ⟨Nat.le_of_ble_eq_true rfl, Nat.le_of_ble_eq_true rfl⟩) ⟨xr_blind, va_recv hK hP (ci := 10) (q0 := 0) rfl rfl, fun U hU hW => xr_mk hU hW hPc hK⟩ rfl rfl hl.1 rfl (lv_room (Nat.le_of_ble_eq_true rfl)) dX10_bestPair_40 ⟨Nat.le_of_ble_eq_true rfl, Nat.le_of_ble_eq_true rfl⟩).run (fun r40 hr40 => ?_)
          clear hPc
          clear hr40
          refine lv_iload_n hx hb dX10_bestPair_43 rfl (lv_at hl 3 rfl) ?_
          refine lv_icmp_le (tgt := 58) hx hb dX10_bestPair_44 (by decide) (fun c44 => ?_) (fun c44 => ?_)
          · exact j58 ls v6_2 v6_1 bv6_1_k6 sME_now_0_k6 (lv_sub hl [0, 1, 2, 3, 4, 5] rfl)
          · have bx44f_v6_2 : zB v6_2 (-2147483648) 2147483646 := zB_ltu (zf c44) (zB_top v6_2) (zB_top r40) (by decide)
            have by44f_r40 : zB r40 (-2147483647) 2147483647 := zB_ltv (zf c44) bx44f_v6_2 (zB_top r40) (by decide)
            refine lv_aload_n hx hb dX10_bestPair_47 rfl (lv_at hl 5 rfl) ?_
            refine lv_iload hx hb dX10_bestPair_48 (lv_at hl 1 rfl) ?_
            refine lv_iload hx hb dX10_bestPair_50 (lv_at hl 0 rfl) ?_
            have hPc := hP.sub (ws' := [(TR, .inr (10, oX10 ME)), (ME, .inr (3, oX3 FL aME ME_oldest ME_done ME_undone)), (FL, .inr (0, oX0 PL aFL FL_parting)), (PL, .inr (5, oX5 FO aPL PL_rooms PL_doors PL_things PL_draw PL_drawTold)), ((aPL 11), .inl (cI, 6, .inl PL_us)), ((aPL 12), .inl (cI, 6, .inl PL_them))]) [0, 1, 2, 3, 5, 6] rfl
            refine vp_callSi (va_runV (As := [.int y15, .int y21]) (rest := []) ⟨hx, hb, hml, hown, hts⟩ (c_X10_gainOf l D cI cB cL cZ cG TR y15 y21 ME FL aME ME_oldest ME_done ME_undone PL aFL FL_parting PL_rooms aPL PL_doors PL_things FO PL_draw PL_drawTold PL_us PL_them by15 by21 b_ME_oldest b_ME_done b_ME_undone b_PL_rooms b_PL_doors b_PL_things) (cwV 2 hts gX10_bestPair_X10_gainOf rfl rfl rfl (by decide +kernel) ⟨Nat.le_of_ble_eq_true rfl, Nat.le_of_ble_eq_true rfl⟩) ⟨xr_blind, va_recv hK hP (ci := 10) (q0 := 0) rfl rfl, fun U hU hW => xr_mk hU hW hPc hK⟩ rfl rfl hl.1 rfl (lv_room (Nat.le_of_ble_eq_true rfl)) dX10_bestPair_52 ⟨Nat.le_of_ble_eq_true rfl, Nat.le_of_ble_eq_true rfl⟩).run (fun r52 hr52 => ?_)
            clear hPc
            clear hr52
            refine lv_istore_n (lv' := [(2, .int r52), (5, .int y21), (4, .int y15), (3, .int v6_3), (1, .int v6_1), (0, .ref TR)]) hx hb dX10_bestPair_55 rfl hl (by decide) rfl (fun ls hl => ?_)
            refine lv_iload_n hx hb dX10_bestPair_56 rfl (lv_at hl 3 rfl) ?_
            refine lv_istore_n (lv' := [(1, .int v6_3), (2, .int r52), (5, .int y21), (4, .int y15), (3, .int v6_3), (0, .ref TR)]) hx hb dX10_bestPair_57 rfl hl (by decide) rfl (fun ls hl => ?_)
            exact j58 ls r52 v6_3 (zB_w bx9f_v6_3 (by decide) (by decide)) sME_now_0_k6 (lv_sub hl [2, 3, 4, 1, 0, 5] rfl)
  refine lv_istore_n (lv' := [(3, .int 0), (2, .int (-1)), (1, .int (-1)), (0, .ref TR)]) hx hb dX10_bestPair_5 rfl hl (by decide) rfl (fun ls hl => ?_)
  exact j6 37 ls 0 (-1) (-1) (zB_w (show zB 0 0 0 from ⟨by decide, by decide⟩) (by decide) (by decide)) (zB_w (show zB (-1) (-1) (-1) from ⟨by decide, by decide⟩) (by decide) (by decide)) s_ME_now_0 (zM_ui (show zB 0 0 0 from ⟨by decide, by decide⟩) (by decide)) (lv_sub hl [0, 1, 2, 3] rfl)
set_option maxHeartbeats 4000000 in
set_option maxRecDepth 100000 in
theorem c_X10_betterElsewhere (l : Launch) (D : va_G) (cI : ClassId) (cB : ClassId) (cL : ClassId) (cZ : ClassId) (cG : ClassId) (TR : Nat) (ME : Nat) (FL : Nat) (aME : Nat → Nat) (ME_oldest : Int32) (ME_done : Int32) (ME_undone : Int32) (PL : Nat) (aFL : Nat → Nat) (FL_parting : Int32) (PL_rooms : Int32) (aPL : Nat → Nat) (PL_doors : Int32) (PL_things : Int32) (FO : Nat) (PL_draw : Int32) (PL_drawTold : Int32) (PL_them : Nat → Int32) (PL_us : Nat → Int32) (ME_now : Nat → Int32) (b_ME_oldest : zB ME_oldest 0 40) (b_ME_done : zB ME_done 0 40) (b_ME_undone : zB ME_undone 0 40) (b_PL_rooms : zB PL_rooms 0 8) (b_PL_doors : zB PL_doors 0 12) (b_PL_things : zB PL_things 0 6) (s_ME_now_0 : zA ME_now 0 12 0 7) : Met l yX10_betterElsewhere wsX10_betterElsewhere ({ frames := 1, cells := 0, slots := 0, locals := 21 }) (xr D [(cI, .int), (cB, .byte), (cL, .long), (cZ, .boolean), (cG, .array .int)] [(TR, .inr (10, oX10 ME)), (ME, .inr (3, oX3 FL aME ME_oldest ME_done ME_undone)), (FL, .inr (0, oX0 PL aFL FL_parting)), (PL, .inr (5, oX5 FO aPL PL_rooms PL_doors PL_things PL_draw PL_drawTold)), ((aPL 12), .inl (cI, 6, .inl PL_them)), ((aPL 11), .inl (cI, 6, .inl PL_us)), ((aME 1), .inl (cI, 32, .inl ME_now))] [.ref TR]) (vp_Si (fun r => zB r 0 63)) 0 0 (fun _ => False) := by
  refine Met.ofW (cc := cX10_betterElsewhere) (maxL := 5) (ret := (some .int)) (by decide) rfl ?_
  intro p e s m args below meth c s₁ B hml hv
  obtain ⟨rfl, hP, hK⟩ := hv
  have hx := B.exec
  have hb := B.bytes
  have hr := B.returns
  have hts := atoms_spec (ws := wsX10_betterElsewhere) B.pre
  have hown : s.vm.findClass RX10 = some m.cls := findClass_of_methodNamed B.named
  have hlocks := B.notSynchronized
  clear B
  have hl := lv_entry ([.ref TR]) (n := 5) (Nat.le_of_ble_eq_true rfl)
  rw [lg_entry_eq]
  generalize (lg_sl ([.ref TR]) ++ List.replicate (5 - (lg_sl ([.ref TR])).length) Slot.unset).toArray = ls at hl ⊢
  replace hl : lv_has ls 5 [(0, .ref TR)] := hl
  refine zz_abs (R := ({ frames := 1, cells := 0, slots := 0, locals := 21 } : Room)) (fun Q up => ?_)
  refine lv_aload_n hx hb dX10_betterElsewhere_0 rfl (lv_at hl 0 rfl) ?_
  refine va_get (D := D) (ci := 10) (v := .ref ME) (C := RX10) (T := TX10) (N := 1) hx hb hts iw_X10_betterElsewhere_X10 hown hK hP 0 rfl rfl 0 (by decide) (hts (.fieldLink RX10 9 "SoldHouse$Trader" "memory" "LSoldHouse$Memory;") (List.mem_of_getElem? (i := 1) rfl)) (fun _ h9 => h9) rfl dX10_betterElsewhere_1 ?_
  refine va_get (D := D) (ci := 3) (v := .ref FL) (C := RX3) (T := TX3) (N := 9) hx hb hts iw_X10_betterElsewhere_X3 hown hK hP 1 rfl rfl 0 (by decide) (hts (.fieldLink RX10 15 "SoldHouse$Memory" "floor" "LSoldHouse$Floor;") (List.mem_of_getElem? (i := 2) rfl)) (fun _ h9 => h9) rfl dX10_betterElsewhere_4 ?_
  refine va_get (D := D) (ci := 0) (v := .ref PL) (C := RX0) (T := TX0) (N := 5) hx hb hts iw_X10_betterElsewhere_X0 hown hK hP 2 rfl rfl 0 (by decide) (hts (.fieldLink RX10 21 "SoldHouse$Floor" "plan" "LSoldHouse$Plan;") (List.mem_of_getElem? (i := 3) rfl)) (fun _ h9 => h9) rfl dX10_betterElsewhere_7 ?_
  refine lv_astore_n (lv' := [(1, .ref PL), (0, .ref TR)]) hx hb dX10_betterElsewhere_10 rfl hl (by decide) rfl (fun ls hl => ?_)
  refine lv_iconst (v := 0) hx hb dX10_betterElsewhere_11 (by decide) ?_
  refine lv_istore_n (lv' := [(2, .int 0), (1, .ref PL), (0, .ref TR)]) hx hb dX10_betterElsewhere_12 rfl hl (by decide) rfl (fun ls hl => ?_)
  refine lv_iconst (v := 0) hx hb dX10_betterElsewhere_13 (by decide) ?_
  have j15 : ∀ (n15 : Nat) (ls : Array Slot) (v15_3 : Int32) (v15_2 : Int32), zB v15_3 0 6 → zB v15_2 0 63 → zA ME_now 0 12 0 7 → (6 + 1 - v15_3.toInt) ≤ (n15 : Int) → lv_has ls 5 [(3, .int v15_3), (2, .int v15_2), (1, .ref PL), (0, .ref TR)] → W p l e ({ frames := 1, cells := 0, slots := 0, locals := 21 } : Room) s m ([.ref TR] : List Value).toArray below meth c s.heap [] 0 0 Q (F0 m 15 ls []) := by
    intro n15
    induction n15 with
    | zero => intro ls v15_3 v15_2 bv15_3_k15 bv15_2_k15 sME_now_0_k15 hm15 hl; exact zM_u0 bv15_3_k15 hm15
    | succ n15 ih15 =>
      intro ls v15_3 v15_2 bv15_3_k15 bv15_2_k15 sME_now_0_k15 hm15 hl
      refine lv_iload_n hx hb dX10_betterElsewhere_15 rfl (lv_at hl 0 rfl) ?_
      refine lv_aload_n hx hb dX10_betterElsewhere_16 rfl (lv_at hl 2 rfl) ?_
      refine va_get (D := D) (ci := 5) (v := .int PL_things) (C := RX5) (T := TX5) (N := 16) hx hb hts iw_X10_betterElsewhere_X5 hown hK hP 3 rfl rfl 6 (by decide) (hts (.fieldLink RX10 27 "SoldHouse$Plan" "things" "I") (List.mem_of_getElem? (i := 4) rfl)) (fun _ h9 => h9) rfl dX10_betterElsewhere_17 ?_
      refine lv_icmp_ge (tgt := 71) hx hb dX10_betterElsewhere_20 (by decide) (fun c20 => ?_) (fun c20 => ?_)
      · refine lv_iload_n hx hb dX10_betterElsewhere_71 rfl (lv_at hl 1 rfl) ?_
        exact up _ _ _ (W.iret (v := v15_2) hx hb hr (fun t ht hW => ⟨v15_2, rfl, bv15_2_k15, ht⟩) (fun q hq => by cases hq) dX10_betterElsewhere_72)
      · have bx20f_v15_3 : zB v15_3 0 5 := zB_ltu (zf c20) bv15_3_k15 b_PL_things (by decide)
        have by20f_PL_things : zB PL_things 1 6 := zB_ltv (zf c20) bx20f_v15_3 b_PL_things (by decide)
        refine lv_aload_n hx hb dX10_betterElsewhere_23 rfl (lv_at hl 2 rfl) ?_
        refine va_get (D := D) (ci := 5) (v := .ref (aPL 12)) (C := RX5) (T := TX5) (N := 16) hx hb hts iw_X10_betterElsewhere_X5 hown hK hP 3 rfl rfl 12 (by decide) (hts (.fieldLink RX10 33 "SoldHouse$Plan" "them" "[I") (List.mem_of_getElem? (i := 5) rfl)) (fun _ h9 => h9) rfl dX10_betterElsewhere_24 ?_
        refine lv_iload_n hx hb dX10_betterElsewhere_27 rfl (lv_at hl 0 rfl) ?_
        refine va_iald hx hb hK hP 4 0 rfl rfl (zB_in bx20f_v15_3 (by decide) (by decide)) dX10_betterElsewhere_28 ?_
        refine lv_topi (fun y28 _ => ?_)
        refine lv_aload_n hx hb dX10_betterElsewhere_29 rfl (lv_at hl 2 rfl) ?_
        refine va_get (D := D) (ci := 5) (v := .ref (aPL 11)) (C := RX5) (T := TX5) (N := 16) hx hb hts iw_X10_betterElsewhere_X5 hown hK hP 3 rfl rfl 11 (by decide) (hts (.fieldLink RX10 37 "SoldHouse$Plan" "us" "[I") (List.mem_of_getElem? (i := 6) rfl)) (fun _ h9 => h9) rfl dX10_betterElsewhere_30 ?_
        refine lv_iload_n hx hb dX10_betterElsewhere_33 rfl (lv_at hl 0 rfl) ?_
        refine va_iald hx hb hK hP 5 0 rfl rfl (zB_in bx20f_v15_3 (by decide) (by decide)) dX10_betterElsewhere_34 ?_
        refine lv_topi (fun y34 _ => ?_)
        refine lv_isub hx hb dX10_betterElsewhere_35 ?_
        refine lv_topi (fun y35 _ => ?_)
        refine lv_istore (lv' := [(4, .int y35), (3, .int v15_3), (2, .int v15_2), (1, .ref PL), (0, .ref TR)]) hx hb dX10_betterElsewhere_36 hl (by decide) rfl (fun ls hl => ?_)
        refine lv_aload_n hx hb dX10_betterElsewhere_38 rfl (lv_at hl 4 rfl) ?_
        refine lv_iload_n hx hb dX10_betterElsewhere_39 rfl (lv_at hl 1 rfl) ?_
        have hPc := hP.sub (ws' := [(TR, .inr (10, oX10 ME)), (ME, .inr (3, oX3 FL aME ME_oldest ME_done ME_undone)), ((aME 1), .inl (cI, 32, .inl ME_now))]) [0, 1, 6] rfl
        refine vp_callSi (va_runV (As := [.int v15_3]) (rest := []) ⟨hx, hb, hml, hown, hts⟩ (c_X10_isOurs l D cI cB cL cZ cG TR v15_3 ME FL aME ME_oldest ME_done ME_undone ME_now bx20f_v15_3 b_ME_oldest b_ME_done b_ME_undone sME_now_0_k15) (cwV 1 hts gX10_betterElsewhere_X10_isOurs rfl rfl rfl (by decide +kernel) ⟨Nat.le_of_ble_eq_true rfl, Nat.le_of_ble_eq_true rfl⟩) ⟨xr_blind, va_recv hK hP (ci := 10) (q0 := 0) rfl rfl, fun U hU hW => xr_mk hU hW hPc hK⟩ rfl rfl hl.1 rfl (lv_room (Nat.le_of_ble_eq_true rfl)) dX10_betterElsewhere_40 ⟨Nat.le_of_ble_eq_true rfl, Nat.le_of_ble_eq_true rfl⟩).run (fun r40 hr40 => ?_)
        clear hPc
        have j65 : ∀ (ls : Array Slot) (v65_2 : Int32), zB v65_2 0 63 → zA ME_now 0 12 0 7 → lv_has ls 5 [(4, .int y35), (3, .int v15_3), (2, .int v65_2), (1, .ref PL), (0, .ref TR)] → W p l e ({ frames := 1, cells := 0, slots := 0, locals := 21 } : Room) s m ([.ref TR] : List Value).toArray below meth c s.heap [] 0 0 Q (F0 m 65 ls []) := by
          intro ls v65_2 bv65_2_k65 sME_now_0_k65 hl
          obtain ⟨y65, by65, ry65, ey65⟩ := zi_inc (x := v15_3) (k := 1) (a := 1) (b := 6) bx20f_v15_3 (by decide) (by decide) (by decide) (by decide) (by decide)
          refine lv_iinc (v := y65) (lv' := [(3, .int y65), (4, .int y35), (2, .int v65_2), (1, .ref PL), (0, .ref TR)]) hx hb dX10_betterElsewhere_65 hl (k := 1) rfl ey65 (by decide) rfl (fun ls hl => ?_)
          refine lv_goto (tgt := 15) hx hb dX10_betterElsewhere_68 (by decide) ?_
          exact ih15 ls y65 v65_2 (zB_w by65 (by decide) (by decide)) bv65_2_k65 sME_now_0_k65 (zM_us (k := 1) hm15 ry65 (by decide)) (lv_sub hl [0, 2, 3, 4] rfl)
        have j59 : ∀ (ls : Array Slot), zA ME_now 0 12 0 7 → lv_has ls 5 [(4, .int y35), (3, .int v15_3), (2, .int v15_2), (1, .ref PL), (0, .ref TR)] → W p l e ({ frames := 1, cells := 0, slots := 0, locals := 21 } : Room) s m ([.ref TR] : List Value).toArray below meth c s.heap [] 0 0 Q (F0 m 59 ls []) := by
          intro ls sME_now_0_k59 hl
          refine lv_iload_n hx hb dX10_betterElsewhere_59 rfl (lv_at hl 2 rfl) ?_
          refine lv_iconst (v := 1) hx hb dX10_betterElsewhere_60 (by decide) ?_
          refine lv_iload_n hx hb dX10_betterElsewhere_61 rfl (lv_at hl 1 rfl) ?_
          refine lv_ishl hx hb dX10_betterElsewhere_62 ?_
          refine zi_top (a := 1) (b := 32) (zB_shl1 bx20f_v15_3 (by decide) (by decide) (by decide) (by decide)) (fun y62 by62 => ?_)
          refine lv_ior hx hb dX10_betterElsewhere_63 ?_
          refine zi_top (a := 1) (b := 63) (zB_or 6 bv15_2_k15 by62 (by decide) (by decide) (by decide) (by decide) (by decide) (by decide) (by decide)) (fun y63 by63 => ?_)
          refine lv_istore_n (lv' := [(2, .int y63), (4, .int y35), (3, .int v15_3), (1, .ref PL), (0, .ref TR)]) hx hb dX10_betterElsewhere_64 rfl hl (by decide) rfl (fun ls hl => ?_)
          exact j65 ls y63 (zB_w by63 (by decide) (by decide)) sME_now_0_k59 (lv_sub hl [1, 2, 0, 3, 4] rfl)
        refine lv_if_eq (tgt := 54) hx hb dX10_betterElsewhere_43 (by decide) (fun c43 => ?_) (fun c43 => ?_)
        · have be43t_r40 : zB r40 0 0 := zB_eq c43 hr40 (show zB 0 0 0 from ⟨by decide, by decide⟩) (by decide) (by decide)
          refine lv_iload hx hb dX10_betterElsewhere_54 (lv_at hl 0 rfl) ?_
          refine lv_if_ge (tgt := 65) hx hb dX10_betterElsewhere_56 (by decide) (fun c56 => ?_) (fun c56 => ?_)
          · have by56t_y35 : zB y35 0 2147483647 := zB_lev (ze c56) (show zB 0 0 0 from ⟨by decide, by decide⟩) (zB_top y35) (by decide)
            exact j65 ls v15_2 bv15_2_k15 sME_now_0_k15 (lv_sub hl [0, 1, 2, 3, 4] rfl)
          · have bx56f_y35 : zB y35 (-2147483648) (-1) := zB_ltu (zf c56) (zB_top y35) (show zB 0 0 0 from ⟨by decide, by decide⟩) (by decide)
            exact j59 ls sME_now_0_k15 (lv_sub hl [0, 1, 2, 3, 4] rfl)
        · have bn43f_r40 : zB r40 1 1 := zB_neL c43 hr40 (show zB 0 0 0 from ⟨by decide, by decide⟩) (by decide)
          refine lv_iload hx hb dX10_betterElsewhere_46 (lv_at hl 0 rfl) ?_
          refine lv_if_le (tgt := 65) hx hb dX10_betterElsewhere_48 (by decide) (fun c48 => ?_) (fun c48 => ?_)
          · have bx48t_y35 : zB y35 (-2147483648) 0 := zB_leu (ze c48) (zB_top y35) (show zB 0 0 0 from ⟨by decide, by decide⟩) (by decide)
            exact j65 ls v15_2 bv15_2_k15 sME_now_0_k15 (lv_sub hl [0, 1, 2, 3, 4] rfl)
          · have by48f_y35 : zB y35 1 2147483647 := zB_ltv (zf c48) (show zB 0 0 0 from ⟨by decide, by decide⟩) (zB_top y35) (by decide)
            refine lv_goto (tgt := 59) hx hb dX10_betterElsewhere_51 (by decide) ?_
            exact j59 ls sME_now_0_k15 (lv_sub hl [0, 1, 2, 3, 4] rfl)
  refine lv_istore_n (lv' := [(3, .int 0), (2, .int 0), (1, .ref PL), (0, .ref TR)]) hx hb dX10_betterElsewhere_14 rfl hl (by decide) rfl (fun ls hl => ?_)
  exact j15 7 ls 0 0 (zB_w (show zB 0 0 0 from ⟨by decide, by decide⟩) (by decide) (by decide)) (zB_w (show zB 0 0 0 from ⟨by decide, by decide⟩) (by decide) (by decide)) s_ME_now_0 (zM_ui (show zB 0 0 0 from ⟨by decide, by decide⟩) (by decide)) (lv_sub hl [0, 1, 2, 3] rfl)
set_option maxHeartbeats 4000000 in
set_option maxRecDepth 100000 in
theorem c_X10_worthOf (l : Launch) (D : va_G) (cI : ClassId) (cB : ClassId) (cL : ClassId) (cZ : ClassId) (cG : ClassId) (TR : Nat) (x0 : Int32) (wo : Nat) (wo_f : Nat → Int32) (ME : Nat) (FL : Nat) (aME : Nat → Nat) (ME_oldest : Int32) (ME_done : Int32) (ME_undone : Int32) (PL : Nat) (aFL : Nat → Nat) (FL_parting : Int32) (PL_rooms : Int32) (aPL : Nat → Nat) (PL_doors : Int32) (PL_things : Int32) (FO : Nat) (PL_draw : Int32) (PL_drawTold : Int32) (ME_now : Nat → Int32) (b_ME_oldest : zB ME_oldest 0 40) (b_ME_done : zB ME_done 0 40) (b_ME_undone : zB ME_undone 0 40) (b_PL_rooms : zB PL_rooms 0 8) (b_PL_doors : zB PL_doors 0 12) (b_PL_things : zB PL_things 0 6) (s_ME_now_0 : zA ME_now 0 12 0 7) : Met l yX10_worthOf wsX10_worthOf ({ frames := 0, cells := 0, slots := 0, locals := 0 }) (xr D [(cI, .int), (cB, .byte), (cL, .long), (cZ, .boolean), (cG, .array .int)] [(wo, .inl (cI, 6, .inl wo_f)), (TR, .inr (10, oX10 ME)), (ME, .inr (3, oX3 FL aME ME_oldest ME_done ME_undone)), (FL, .inr (0, oX0 PL aFL FL_parting)), (PL, .inr (5, oX5 FO aPL PL_rooms PL_doors PL_things PL_draw PL_drawTold)), ((aME 1), .inl (cI, 32, .inl ME_now))] [.ref TR, .int x0, .ref wo]) (vp_Si (fun r => True)) 0 0 (fun _ => False) := by
  refine Met.ofW (cc := cX10_worthOf) (maxL := 5) (ret := (some .int)) (by decide) rfl ?_
  intro p e s m args below meth c s₁ B hml hv
  obtain ⟨rfl, hP, hK⟩ := hv
  have hx := B.exec
  have hb := B.bytes
  have hr := B.returns
  have hts := atoms_spec (ws := wsX10_worthOf) B.pre
  have hown : s.vm.findClass RX10 = some m.cls := findClass_of_methodNamed B.named
  have hlocks := B.notSynchronized
  clear B
  have hl := lv_entry ([.ref TR, .int x0, .ref wo]) (n := 5) (Nat.le_of_ble_eq_true rfl)
  rw [lg_entry_eq]
  generalize (lg_sl ([.ref TR, .int x0, .ref wo]) ++ List.replicate (5 - (lg_sl ([.ref TR, .int x0, .ref wo])).length) Slot.unset).toArray = ls at hl ⊢
  replace hl : lv_has ls 5 [(0, .ref TR), (1, .int x0), (2, .ref wo)] := hl
  refine zz_abs (R := ({ frames := 0, cells := 0, slots := 0, locals := 0 } : Room)) (fun Q up => ?_)
  refine lv_iconst (v := 0) hx hb dX10_worthOf_0 (by decide) ?_
  refine lv_istore_n (lv' := [(3, .int 0), (0, .ref TR), (1, .int x0), (2, .ref wo)]) hx hb dX10_worthOf_1 rfl hl (by decide) rfl (fun ls hl => ?_)
  refine lv_iconst (v := 0) hx hb dX10_worthOf_2 (by decide) ?_
  have j5 : ∀ (n5 : Nat) (ls : Array Slot) (v5_4 : Int32) (v5_3 : Int32), zB v5_4 0 6 → zA ME_now 0 12 0 7 → (6 + 1 - v5_4.toInt) ≤ (n5 : Int) → lv_has ls 5 [(4, .int v5_4), (3, .int v5_3), (0, .ref TR), (1, .int x0), (2, .ref wo)] → W p l e ({ frames := 0, cells := 0, slots := 0, locals := 0 } : Room) s m ([.ref TR, .int x0, .ref wo] : List Value).toArray below meth c s.heap [] 0 0 Q (F0 m 5 ls []) := by
    intro n5
    induction n5 with
    | zero => intro ls v5_4 v5_3 bv5_4_k5 sME_now_0_k5 hm5 hl; exact zM_u0 bv5_4_k5 hm5
    | succ n5 ih5 =>
      intro ls v5_4 v5_3 bv5_4_k5 sME_now_0_k5 hm5 hl
      refine lv_iload hx hb dX10_worthOf_5 (lv_at hl 0 rfl) ?_
      refine lv_aload_n hx hb dX10_worthOf_7 rfl (lv_at hl 2 rfl) ?_
      refine va_get (D := D) (ci := 10) (v := .ref ME) (C := RX10) (T := TX10) (N := 1) hx hb hts iw_X10_worthOf_X10 hown hK hP 1 rfl rfl 0 (by decide) (hts (.fieldLink RX10 9 "SoldHouse$Trader" "memory" "LSoldHouse$Memory;") (List.mem_of_getElem? (i := 1) rfl)) (fun _ h9 => h9) rfl dX10_worthOf_8 ?_
      refine va_get (D := D) (ci := 3) (v := .ref FL) (C := RX3) (T := TX3) (N := 9) hx hb hts iw_X10_worthOf_X3 hown hK hP 2 rfl rfl 0 (by decide) (hts (.fieldLink RX10 15 "SoldHouse$Memory" "floor" "LSoldHouse$Floor;") (List.mem_of_getElem? (i := 2) rfl)) (fun _ h9 => h9) rfl dX10_worthOf_11 ?_
      refine va_get (D := D) (ci := 0) (v := .ref PL) (C := RX0) (T := TX0) (N := 5) hx hb hts iw_X10_worthOf_X0 hown hK hP 3 rfl rfl 0 (by decide) (hts (.fieldLink RX10 21 "SoldHouse$Floor" "plan" "LSoldHouse$Plan;") (List.mem_of_getElem? (i := 3) rfl)) (fun _ h9 => h9) rfl dX10_worthOf_14 ?_
      refine va_get (D := D) (ci := 5) (v := .int PL_things) (C := RX5) (T := TX5) (N := 16) hx hb hts iw_X10_worthOf_X5 hown hK hP 4 rfl rfl 6 (by decide) (hts (.fieldLink RX10 27 "SoldHouse$Plan" "things" "I") (List.mem_of_getElem? (i := 4) rfl)) (fun _ h9 => h9) rfl dX10_worthOf_17 ?_
      refine lv_icmp_ge (tgt := 53) hx hb dX10_worthOf_20 (by decide) (fun c20 => ?_) (fun c20 => ?_)
      · refine lv_iload_n hx hb dX10_worthOf_53 rfl (lv_at hl 1 rfl) ?_
        exact up _ _ _ (W.iret (v := v5_3) hx hb hr (fun t ht hW => ⟨v5_3, rfl, trivial, ht⟩) (fun q hq => by cases hq) dX10_worthOf_54)
      · have bx20f_v5_4 : zB v5_4 0 5 := zB_ltu (zf c20) bv5_4_k5 b_PL_things (by decide)
        have by20f_PL_things : zB PL_things 1 6 := zB_ltv (zf c20) bx20f_v5_4 b_PL_things (by decide)
        refine lv_aload_n hx hb dX10_worthOf_23 rfl (lv_at hl 2 rfl) ?_
        refine va_get (D := D) (ci := 10) (v := .ref ME) (C := RX10) (T := TX10) (N := 1) hx hb hts iw_X10_worthOf_X10 hown hK hP 1 rfl rfl 0 (by decide) (hts (.fieldLink RX10 9 "SoldHouse$Trader" "memory" "LSoldHouse$Memory;") (List.mem_of_getElem? (i := 1) rfl)) (fun _ h9 => h9) rfl dX10_worthOf_24 ?_
        refine va_get (D := D) (ci := 3) (v := .ref (aME 1)) (C := RX3) (T := TX3) (N := 9) hx hb hts iw_X10_worthOf_X3 hown hK hP 2 rfl rfl 1 (by decide) (hts (.fieldLink RX10 44 "SoldHouse$Memory" "now" "[I") (List.mem_of_getElem? (i := 5) rfl)) (fun _ h9 => h9) rfl dX10_worthOf_27 ?_
        refine lv_bipush (v := 12) hx hb dX10_worthOf_30 (by decide) ?_
        refine lv_iload hx hb dX10_worthOf_32 (lv_at hl 0 rfl) ?_
        refine lv_iadd hx hb dX10_worthOf_34 ?_
        refine zi_top (a := 12) (b := 17) (zB_add (show zB 12 12 12 from ⟨by decide, by decide⟩) bx20f_v5_4 (by decide) (by decide) (by decide) (by decide)) (fun y34 by34 => ?_)
        refine va_iald hx hb hK hP 5 0 rfl rfl (zB_in by34 (by decide) (by decide)) dX10_worthOf_35 ?_
        refine lv_topi (fun y35 _ => ?_)
        refine lv_iload_n hx hb dX10_worthOf_36 rfl (lv_at hl 3 rfl) ?_
        have j47 : ∀ (ls : Array Slot) (v47_3 : Int32), zA ME_now 0 12 0 7 → lv_has ls 5 [(4, .int v5_4), (3, .int v47_3), (0, .ref TR), (1, .int x0), (2, .ref wo)] → W p l e ({ frames := 0, cells := 0, slots := 0, locals := 0 } : Room) s m ([.ref TR, .int x0, .ref wo] : List Value).toArray below meth c s.heap [] 0 0 Q (F0 m 47 ls []) := by
          intro ls v47_3 sME_now_0_k47 hl
          obtain ⟨y47, by47, ry47, ey47⟩ := zi_inc (x := v5_4) (k := 1) (a := 1) (b := 6) bx20f_v5_4 (by decide) (by decide) (by decide) (by decide) (by decide)
          refine lv_iinc (v := y47) (lv' := [(4, .int y47), (3, .int v47_3), (0, .ref TR), (1, .int x0), (2, .ref wo)]) hx hb dX10_worthOf_47 hl (k := 0) rfl ey47 (by decide) rfl (fun ls hl => ?_)
          refine lv_goto (tgt := 5) hx hb dX10_worthOf_50 (by decide) ?_
          exact ih5 ls y47 v47_3 (zB_w by47 (by decide) (by decide)) sME_now_0_k47 (zM_us (k := 1) hm5 ry47 (by decide)) (lv_sub hl [0, 1, 2, 3, 4] rfl)
        refine lv_icmp_ne (tgt := 47) hx hb dX10_worthOf_37 (by decide) (fun c37 => ?_) (fun c37 => ?_)
        · exact j47 ls v5_3 sME_now_0_k5 (lv_sub hl [0, 1, 2, 3, 4] rfl)
        · refine lv_iload_n hx hb dX10_worthOf_40 rfl (lv_at hl 1 rfl) ?_
          refine lv_aload_n hx hb dX10_worthOf_41 rfl (lv_at hl 4 rfl) ?_
          refine lv_iload hx hb dX10_worthOf_42 (lv_at hl 0 rfl) ?_
          refine va_iald hx hb hK hP 0 0 rfl rfl (zB_in bx20f_v5_4 (by decide) (by decide)) dX10_worthOf_44 ?_
          refine lv_topi (fun y44 _ => ?_)
          refine lv_iadd hx hb dX10_worthOf_45 ?_
          refine lv_topi (fun y45 _ => ?_)
          refine lv_istore_n (lv' := [(3, .int y45), (4, .int v5_4), (0, .ref TR), (1, .int x0), (2, .ref wo)]) hx hb dX10_worthOf_46 rfl hl (by decide) rfl (fun ls hl => ?_)
          exact j47 ls y45 sME_now_0_k5 (lv_sub hl [1, 0, 2, 3, 4] rfl)
  refine lv_istore (lv' := [(4, .int 0), (3, .int 0), (0, .ref TR), (1, .int x0), (2, .ref wo)]) hx hb dX10_worthOf_3 hl (by decide) rfl (fun ls hl => ?_)
  exact j5 7 ls 0 0 (zB_w (show zB 0 0 0 from ⟨by decide, by decide⟩) (by decide) (by decide)) s_ME_now_0 (zM_ui (show zB 0 0 0 from ⟨by decide, by decide⟩) (by decide)) (lv_sub hl [0, 1, 2, 3, 4] rfl)
set_option maxHeartbeats 4000000 in
set_option maxRecDepth 100000 in
theorem c_X4_note (l : Launch) (D : va_G) (cI : ClassId) (cB : ClassId) (cL : ClassId) (cZ : ClassId) (cG : ClassId) (NI : Nat) (x0 : Int32) (x1 : Int32) (x2 : Int32) (FL : Nat) (NI_count : Int32) (NI_time : Int32) (aNI : Nat → Nat) (NI_minute : Nat → Int32) (NI_rooms : Nat → Int32) (NI_toldAt : Nat → Int32) (NI_untoldAt : Nat → Int32) (sz : Nat) (b_x0 : zB x0 0 7) (b_NI_count : zB NI_count 0 30) (b_NI_time : zB NI_time 0 100000) (s_NI_minute_0 : zA NI_minute 0 30 0 7) : Met l yX4_note wsX4_note ({ frames := 0, cells := 0, slots := 0, locals := 0 }) (xp D [(cI, .int), (cB, .byte), (cL, .long), (cZ, .boolean), (cG, .array .int)] [(NI, .inr (4, oX4 FL aNI NI_count NI_time)), ((aNI 3), .inl (cI, 30, .inl NI_minute)), ((aNI 4), .inl (cI, 30, .inl NI_rooms)), ((aNI 5), .inl (cI, 30, .inl NI_toldAt)), ((aNI 6), .inl (cI, 30, .inl NI_untoldAt))] sz [] [.ref NI, .int x0, .int x1, .int x2]) (va_Qi (fun (r : Int32) (_ : Unit) => zB r (-1) 29) (fun (_ : Unit) (t : State) => ∃ (nNI_count : Int32), ∃ (nNIminute : Nat → Int32), ∃ (nNIrooms : Nat → Int32), ∃ (nNItoldAt : Nat → Int32), ∃ (nNIuntoldAt : Nat → Int32), zB nNI_count 1 30 ∧ zA nNIminute 0 30 0 7 ∧ xB D (va_A [(NI, .inr (4, oX4 FL aNI NI_count NI_time)), ((aNI 3), .inl (cI, 30, .inl NI_minute)), ((aNI 4), .inl (cI, 30, .inl NI_rooms)), ((aNI 5), .inl (cI, 30, .inl NI_toldAt)), ((aNI 6), .inl (cI, 30, .inl NI_untoldAt))] sz) [(NI, .inr (4, oX4 FL aNI nNI_count NI_time)), ((aNI 3), .inl (cI, 30, .inl nNIminute)), ((aNI 4), .inl (cI, 30, .inl nNIrooms)), ((aNI 5), .inl (cI, 30, .inl nNItoldAt)), ((aNI 6), .inl (cI, 30, .inl nNIuntoldAt))] t) (va_A [(NI, .inr (4, oX4 FL aNI NI_count NI_time)), ((aNI 3), .inl (cI, 30, .inl NI_minute)), ((aNI 4), .inl (cI, 30, .inl NI_rooms)), ((aNI 5), .inl (cI, 30, .inl NI_toldAt)), ((aNI 6), .inl (cI, 30, .inl NI_untoldAt))] sz)) 0 0 (va_A [(NI, .inr (4, oX4 FL aNI NI_count NI_time)), ((aNI 3), .inl (cI, 30, .inl NI_minute)), ((aNI 4), .inl (cI, 30, .inl NI_rooms)), ((aNI 5), .inl (cI, 30, .inl NI_toldAt)), ((aNI 6), .inl (cI, 30, .inl NI_untoldAt))] sz) := by
  refine Met.ofW (cc := cX4_note) (maxL := 4) (ret := (some .int)) (by decide) rfl ?_
  intro p e s m args below meth c s₁ B hml hv
  obtain ⟨rfl, hsz, hP, hK, hD0, hNw⟩ := hv
  have hx := B.exec
  have hb := B.bytes
  have hr := B.returns
  have hts := atoms_spec (ws := wsX4_note) B.pre
  have hown : s.vm.findClass RX4 = some m.cls := findClass_of_methodNamed B.named
  have hlocks := B.notSynchronized
  clear B
  subst hsz
  have hD := hD0.self (sz := s.heap.size)
  clear hD0 hNw
  generalize hAe : va_A [(NI, .inr (4, oX4 FL aNI NI_count NI_time)), ((aNI 3), .inl (cI, 30, .inl NI_minute)), ((aNI 4), .inl (cI, 30, .inl NI_rooms)), ((aNI 5), .inl (cI, 30, .inl NI_toldAt)), ((aNI 6), .inl (cI, 30, .inl NI_untoldAt))] s.heap.size = A at hD ⊢
  have hA : ∀ q : Nat, s.heap.size ≤ q → A q := fun q h => by rw [← hAe]; exact Or.inr h
  have hS : va_S A s.heap s.heap [] := va_S.rf
  clear hAe
  obtain ⟨H, hH⟩ : ∃ H : Heap, H = s.heap := ⟨_, rfl⟩
  obtain ⟨locs, hlocs⟩ : ∃ L : List Loc, L = [] := ⟨_, rfl⟩
  replace hP : va_P D classes [(NI, .inr (4, oX4 FL aNI NI_count NI_time)), ((aNI 3), .inl (cI, 30, .inl NI_minute)), ((aNI 4), .inl (cI, 30, .inl NI_rooms)), ((aNI 5), .inl (cI, 30, .inl NI_toldAt)), ((aNI 6), .inl (cI, 30, .inl NI_untoldAt))] H := by rw [hH]; exact hP
  replace hS : va_S A s.heap H locs := by rw [hH, hlocs]; exact hS
  rw [← hH, ← hlocs]
  clear hlocs hH
  have hl := lv_entry ([.ref NI, .int x0, .int x1, .int x2]) (n := 4) (Nat.le_of_ble_eq_true rfl)
  rw [lg_entry_eq]
  generalize (lg_sl ([.ref NI, .int x0, .int x1, .int x2]) ++ List.replicate (4 - (lg_sl ([.ref NI, .int x0, .int x1, .int x2])).length) Slot.unset).toArray = ls at hl ⊢
  replace hl : lv_has ls 4 [(0, .ref NI), (1, .int x0), (2, .int x1), (3, .int x2)] := hl
  refine zz_abs (R := ({ frames := 0, cells := 0, slots := 0, locals := 0 } : Room)) (fun Q up => ?_)
  refine lv_aload_n hx hb dX4_note_0 rfl (lv_at hl 0 rfl) ?_
  refine va_get (D := D) (ci := 4) (v := .int NI_count) (C := RX4) (T := TX4) (N := 10) hx hb hts iw_X4_note_X4 hown hK hP 0 rfl rfl 1 (by decide) (hts (.fieldLink RX4 37 "SoldHouse$Night" "count" "I") (List.mem_of_getElem? (i := 1) rfl)) (fun _ h9 => h9) rfl dX4_note_1 ?_
  refine lv_bipush (v := 30) hx hb dX4_note_4 (by decide) ?_
  refine lv_icmp_lt (tgt := 11) hx hb dX4_note_6 (by decide) (fun c6 => ?_) (fun c6 => ?_)
  · have bx6t_NI_count : zB NI_count 0 29 := zB_ltu (zl c6) b_NI_count (show zB 30 30 30 from ⟨by decide, by decide⟩) (by decide)
    refine lv_aload_n hx hb dX4_note_11 rfl (lv_at hl 0 rfl) ?_
    refine va_get (D := D) (ci := 4) (v := .ref (aNI 3)) (C := RX4) (T := TX4) (N := 10) hx hb hts iw_X4_note_X4 hown hK hP 0 rfl rfl 3 (by decide) (hts (.fieldLink RX4 11 "SoldHouse$Night" "minute" "[I") (List.mem_of_getElem? (i := 2) rfl)) (fun _ h9 => h9) rfl dX4_note_12 ?_
    refine lv_aload_n hx hb dX4_note_15 rfl (lv_at hl 0 rfl) ?_
    refine va_get (D := D) (ci := 4) (v := .int NI_count) (C := RX4) (T := TX4) (N := 10) hx hb hts iw_X4_note_X4 hown hK hP 0 rfl rfl 1 (by decide) (hts (.fieldLink RX4 37 "SoldHouse$Night" "count" "I") (List.mem_of_getElem? (i := 1) rfl)) (fun _ h9 => h9) rfl dX4_note_16 ?_
    refine lv_iload_n hx hb dX4_note_19 rfl (lv_at hl 1 rfl) ?_
    refine zi_iast hx hb hK hP hD hS 1 0 rfl rfl (zB_in bx6t_NI_count (by decide) (by decide)) dX4_note_20 (fun H locs g20 eg20 hP hD hS => ?_)
    replace hP : va_P D classes [(NI, .inr (4, oX4 FL aNI NI_count NI_time)), ((aNI 3), .inl (cI, 30, .inl g20)), ((aNI 4), .inl (cI, 30, .inl NI_rooms)), ((aNI 5), .inl (cI, 30, .inl NI_toldAt)), ((aNI 6), .inl (cI, 30, .inl NI_untoldAt))] H := hP
    replace hD : va_D A [(NI, .inr (4, oX4 FL aNI NI_count NI_time)), ((aNI 3), .inl (cI, 30, .inl g20)), ((aNI 4), .inl (cI, 30, .inl NI_rooms)), ((aNI 5), .inl (cI, 30, .inl NI_toldAt)), ((aNI 6), .inl (cI, 30, .inl NI_untoldAt))] := hD
    have sg20_0 := zA_up eg20 s_NI_minute_0 b_x0 (by decide) (by decide)
    clear eg20
    refine lv_aload_n hx hb dX4_note_21 rfl (lv_at hl 0 rfl) ?_
    refine va_get (D := D) (ci := 4) (v := .ref (aNI 4)) (C := RX4) (T := TX4) (N := 10) hx hb hts iw_X4_note_X4 hown hK hP 0 rfl rfl 4 (by decide) (hts (.fieldLink RX4 15 "SoldHouse$Night" "rooms" "[I") (List.mem_of_getElem? (i := 3) rfl)) (fun _ h9 => h9) rfl dX4_note_22 ?_
    refine lv_aload_n hx hb dX4_note_25 rfl (lv_at hl 0 rfl) ?_
    refine va_get (D := D) (ci := 4) (v := .int NI_count) (C := RX4) (T := TX4) (N := 10) hx hb hts iw_X4_note_X4 hown hK hP 0 rfl rfl 1 (by decide) (hts (.fieldLink RX4 37 "SoldHouse$Night" "count" "I") (List.mem_of_getElem? (i := 1) rfl)) (fun _ h9 => h9) rfl dX4_note_26 ?_
    refine lv_iload_n hx hb dX4_note_29 rfl (lv_at hl 3 rfl) ?_
    have j40 : ∀ (H : Heap) (locs : List Loc) (ls : Array Slot) (u40_0 : Int32), zA g20 0 30 0 7 → va_P D classes [(NI, .inr (4, oX4 FL aNI NI_count NI_time)), ((aNI 3), .inl (cI, 30, .inl g20)), ((aNI 4), .inl (cI, 30, .inl NI_rooms)), ((aNI 5), .inl (cI, 30, .inl NI_toldAt)), ((aNI 6), .inl (cI, 30, .inl NI_untoldAt))] H → va_D A [(NI, .inr (4, oX4 FL aNI NI_count NI_time)), ((aNI 3), .inl (cI, 30, .inl g20)), ((aNI 4), .inl (cI, 30, .inl NI_rooms)), ((aNI 5), .inl (cI, 30, .inl NI_toldAt)), ((aNI 6), .inl (cI, 30, .inl NI_untoldAt))] → va_S A s.heap H locs → lv_has ls 4 [(0, .ref NI), (1, .int x0), (2, .int x1), (3, .int x2)] → W p l e ({ frames := 0, cells := 0, slots := 0, locals := 0 } : Room) s m ([.ref NI, .int x0, .int x1, .int x2] : List Value).toArray below meth c H locs 0 0 Q (F0 m 40 ls [.int u40_0, .int NI_count, .ref (aNI 4)]) := by
      intro H locs ls u40_0 sg20_0_k40 hP hD hS hl
      refine zi_iast hx hb hK hP hD hS 2 0 rfl rfl (zB_in bx6t_NI_count (by decide) (by decide)) dX4_note_40 (fun H locs g40 eg40 hP hD hS => ?_)
      replace hP : va_P D classes [(NI, .inr (4, oX4 FL aNI NI_count NI_time)), ((aNI 3), .inl (cI, 30, .inl g20)), ((aNI 4), .inl (cI, 30, .inl g40)), ((aNI 5), .inl (cI, 30, .inl NI_toldAt)), ((aNI 6), .inl (cI, 30, .inl NI_untoldAt))] H := hP
      replace hD : va_D A [(NI, .inr (4, oX4 FL aNI NI_count NI_time)), ((aNI 3), .inl (cI, 30, .inl g20)), ((aNI 4), .inl (cI, 30, .inl g40)), ((aNI 5), .inl (cI, 30, .inl NI_toldAt)), ((aNI 6), .inl (cI, 30, .inl NI_untoldAt))] := hD
      clear eg40
      refine lv_aload_n hx hb dX4_note_41 rfl (lv_at hl 0 rfl) ?_
      refine va_get (D := D) (ci := 4) (v := .ref (aNI 5)) (C := RX4) (T := TX4) (N := 10) hx hb hts iw_X4_note_X4 hown hK hP 0 rfl rfl 5 (by decide) (hts (.fieldLink RX4 18 "SoldHouse$Night" "toldAt" "[I") (List.mem_of_getElem? (i := 4) rfl)) (fun _ h9 => h9) rfl dX4_note_42 ?_
      refine lv_aload_n hx hb dX4_note_45 rfl (lv_at hl 0 rfl) ?_
      refine va_get (D := D) (ci := 4) (v := .int NI_count) (C := RX4) (T := TX4) (N := 10) hx hb hts iw_X4_note_X4 hown hK hP 0 rfl rfl 1 (by decide) (hts (.fieldLink RX4 37 "SoldHouse$Night" "count" "I") (List.mem_of_getElem? (i := 1) rfl)) (fun _ h9 => h9) rfl dX4_note_46 ?_
      refine lv_aload_n hx hb dX4_note_49 rfl (lv_at hl 0 rfl) ?_
      refine va_get (D := D) (ci := 4) (v := .int NI_time) (C := RX4) (T := TX4) (N := 10) hx hb hts iw_X4_note_X4 hown hK hP 0 rfl rfl 2 (by decide) (hts (.fieldLink RX4 41 "SoldHouse$Night" "time" "I") (List.mem_of_getElem? (i := 5) rfl)) (fun _ h9 => h9) rfl dX4_note_50 ?_
      refine zi_iast hx hb hK hP hD hS 3 0 rfl rfl (zB_in bx6t_NI_count (by decide) (by decide)) dX4_note_53 (fun H locs g53 eg53 hP hD hS => ?_)
      replace hP : va_P D classes [(NI, .inr (4, oX4 FL aNI NI_count NI_time)), ((aNI 3), .inl (cI, 30, .inl g20)), ((aNI 4), .inl (cI, 30, .inl g40)), ((aNI 5), .inl (cI, 30, .inl g53)), ((aNI 6), .inl (cI, 30, .inl NI_untoldAt))] H := hP
      replace hD : va_D A [(NI, .inr (4, oX4 FL aNI NI_count NI_time)), ((aNI 3), .inl (cI, 30, .inl g20)), ((aNI 4), .inl (cI, 30, .inl g40)), ((aNI 5), .inl (cI, 30, .inl g53)), ((aNI 6), .inl (cI, 30, .inl NI_untoldAt))] := hD
      clear eg53
      refine lv_aload_n hx hb dX4_note_54 rfl (lv_at hl 0 rfl) ?_
      refine va_get (D := D) (ci := 4) (v := .ref (aNI 6)) (C := RX4) (T := TX4) (N := 10) hx hb hts iw_X4_note_X4 hown hK hP 0 rfl rfl 6 (by decide) (hts (.fieldLink RX4 21 "SoldHouse$Night" "untoldAt" "[I") (List.mem_of_getElem? (i := 6) rfl)) (fun _ h9 => h9) rfl dX4_note_55 ?_
      refine lv_aload_n hx hb dX4_note_58 rfl (lv_at hl 0 rfl) ?_
      refine va_get (D := D) (ci := 4) (v := .int NI_count) (C := RX4) (T := TX4) (N := 10) hx hb hts iw_X4_note_X4 hown hK hP 0 rfl rfl 1 (by decide) (hts (.fieldLink RX4 37 "SoldHouse$Night" "count" "I") (List.mem_of_getElem? (i := 1) rfl)) (fun _ h9 => h9) rfl dX4_note_59 ?_
      refine lv_iconst (v := (-1)) hx hb dX4_note_62 (by decide) ?_
      refine zi_iast hx hb hK hP hD hS 4 0 rfl rfl (zB_in bx6t_NI_count (by decide) (by decide)) dX4_note_63 (fun H locs g63 eg63 hP hD hS => ?_)
      replace hP : va_P D classes [(NI, .inr (4, oX4 FL aNI NI_count NI_time)), ((aNI 3), .inl (cI, 30, .inl g20)), ((aNI 4), .inl (cI, 30, .inl g40)), ((aNI 5), .inl (cI, 30, .inl g53)), ((aNI 6), .inl (cI, 30, .inl g63))] H := hP
      replace hD : va_D A [(NI, .inr (4, oX4 FL aNI NI_count NI_time)), ((aNI 3), .inl (cI, 30, .inl g20)), ((aNI 4), .inl (cI, 30, .inl g40)), ((aNI 5), .inl (cI, 30, .inl g53)), ((aNI 6), .inl (cI, 30, .inl g63))] := hD
      clear eg63
      refine lv_aload_n hx hb dX4_note_64 rfl (lv_at hl 0 rfl) ?_
      refine lv_dup hx hb dX4_note_65 rfl ?_
      refine va_get (D := D) (ci := 4) (v := .int NI_count) (C := RX4) (T := TX4) (N := 10) hx hb hts iw_X4_note_X4 hown hK hP 0 rfl rfl 1 (by decide) (hts (.fieldLink RX4 37 "SoldHouse$Night" "count" "I") (List.mem_of_getElem? (i := 1) rfl)) (fun _ h9 => h9) rfl dX4_note_66 ?_
      refine lv_iconst (v := 1) hx hb dX4_note_69 (by decide) ?_
      refine lv_iadd hx hb dX4_note_70 ?_
      refine zi_top2 (P := fun y => y.toInt = NI_count.toInt + 1) (a := 1) (b := 30) (zB_add bx6t_NI_count (show zB 1 1 1 from ⟨by decide, by decide⟩) (by decide) (by decide) (by decide) (by decide)) (zR_addc bx6t_NI_count (by decide) (by decide) (by decide)) (fun y70 by70 ry70 => ?_)
      refine va_put (D := D) (ci := 4) (v := .int y70) (ty := tyX4 1) (C := RX4) (T := TX4) (N := 10) hx hb hts iw_X4_note_X4 tyX4 tyX4_ok nmX4 hown hK hP hD hS 0 rfl rfl 1 (by decide) (hts (.fieldLink RX4 37 "SoldHouse$Night" "count" "I") (List.mem_of_getElem? (i := 1) rfl)) (fun _ h9 => h9) rfl (by decide +kernel) rfl rfl (Nat.le_of_ble_eq_true rfl) dX4_note_71 (fun H locs hP hD hS => ?_)
      replace hP : va_P D classes [(NI, .inr (4, oX4 FL aNI y70 NI_time)), ((aNI 3), .inl (cI, 30, .inl g20)), ((aNI 4), .inl (cI, 30, .inl g40)), ((aNI 5), .inl (cI, 30, .inl g53)), ((aNI 6), .inl (cI, 30, .inl g63))] H := hP
      replace hD : va_D A [(NI, .inr (4, oX4 FL aNI y70 NI_time)), ((aNI 3), .inl (cI, 30, .inl g20)), ((aNI 4), .inl (cI, 30, .inl g40)), ((aNI 5), .inl (cI, 30, .inl g53)), ((aNI 6), .inl (cI, 30, .inl g63))] := hD
      refine lv_aload_n hx hb dX4_note_74 rfl (lv_at hl 0 rfl) ?_
      refine va_get (D := D) (ci := 4) (v := .int y70) (C := RX4) (T := TX4) (N := 10) hx hb hts iw_X4_note_X4 hown hK hP 0 rfl rfl 1 (by decide) (hts (.fieldLink RX4 37 "SoldHouse$Night" "count" "I") (List.mem_of_getElem? (i := 1) rfl)) (fun _ h9 => h9) rfl dX4_note_75 ?_
      refine lv_iconst (v := 1) hx hb dX4_note_78 (by decide) ?_
      refine lv_isub hx hb dX4_note_79 ?_
      refine zi_top2 (P := fun y => y.toInt = y70.toInt + (-1)) (a := 0) (b := 29) (zB_sub by70 (show zB 1 1 1 from ⟨by decide, by decide⟩) (by decide) (by decide) (by decide) (by decide)) (zR_subc by70 (by decide) (by decide) (by decide)) (fun y79 by79 ry79 => ?_)
      exact up _ _ _ (W.iret (v := y79) hx hb hr (fun t ht hW => ⟨⟨y79, (), rfl, (zB_w by79 (by decide) (by decide)), ⟨y70, g20, g40, g53, g63, by70, sg20_0_k40, by rw [ht]; exact hP, hD⟩⟩, hS.F ht⟩) hS.2.2 dX4_note_80)
    refine lv_if_eq (tgt := 37) hx hb dX4_note_30 (by decide) (fun c30 => ?_) (fun c30 => ?_)
    · have be30t_x2 : zB x2 0 0 := zB_eq c30 (zB_top x2) (show zB 0 0 0 from ⟨by decide, by decide⟩) (by decide) (by decide)
      refine lv_iload_n hx hb dX4_note_37 rfl (lv_at hl 2 rfl) ?_
      refine lv_iconst (v := (-1)) hx hb dX4_note_38 (by decide) ?_
      refine lv_ixor hx hb dX4_note_39 ?_
      refine lv_topi (fun y39 _ => ?_)
      exact j40 H locs ls y39 sg20_0 hP hD hS (lv_sub hl [0, 1, 2, 3] rfl)
    · refine lv_iload_n hx hb dX4_note_33 rfl (lv_at hl 2 rfl) ?_
      refine lv_goto (tgt := 40) hx hb dX4_note_34 (by decide) ?_
      exact j40 H locs ls x1 sg20_0 hP hD hS (lv_sub hl [0, 1, 2, 3] rfl)
  · have by6f_NI_count : zB NI_count 30 30 := zB_lev (zg c6) (show zB 30 30 30 from ⟨by decide, by decide⟩) b_NI_count (by decide)
    refine lv_iconst (v := (-1)) hx hb dX4_note_9 (by decide) ?_
    exact up _ _ _ (W.iret (v := (-1)) hx hb hr (fun t ht hW => ⟨⟨(-1), (), rfl, (zB_w (show zB (-1) (-1) (-1) from ⟨by decide, by decide⟩) (by decide) (by decide)), ⟨NI_count, NI_minute, NI_rooms, NI_toldAt, NI_untoldAt, (zB_w by6f_NI_count (by decide) (by decide)), s_NI_minute_0, by rw [ht]; exact hP, hD⟩⟩, hS.F ht⟩) hS.2.2 dX4_note_10)
set_option maxHeartbeats 4000000 in
set_option maxRecDepth 100000 in
theorem c_X4_takeBack (l : Launch) (D : va_G) (cI : ClassId) (cB : ClassId) (cL : ClassId) (cZ : ClassId) (cG : ClassId) (NI : Nat) (x0 : Int32) (FL : Nat) (NI_count : Int32) (NI_time : Int32) (aNI : Nat → Nat) (NI_untoldAt : Nat → Int32) (sz : Nat) (b_NI_count : zB NI_count 0 30) (b_NI_time : zB NI_time 0 100000) : Met l yX4_takeBack wsX4_takeBack ({ frames := 0, cells := 0, slots := 0, locals := 0 }) (xp D [(cI, .int), (cB, .byte), (cL, .long), (cZ, .boolean), (cG, .array .int)] [(NI, .inr (4, oX4 FL aNI NI_count NI_time)), ((aNI 6), .inl (cI, 30, .inl NI_untoldAt))] sz [] [.ref NI, .int x0]) (va_Qi (fun (r : Int32) (_ : Unit) => (r = 0) ∨ (r = 1 ∧ zB x0 0 29)) (fun (_ : Unit) (t : State) => ∃ (nNIuntoldAt : Nat → Int32), xB D (va_A [(NI, .inr (4, oX4 FL aNI NI_count NI_time)), ((aNI 6), .inl (cI, 30, .inl NI_untoldAt))] sz) [(NI, .inr (4, oX4 FL aNI NI_count NI_time)), ((aNI 6), .inl (cI, 30, .inl nNIuntoldAt))] t) (va_A [(NI, .inr (4, oX4 FL aNI NI_count NI_time)), ((aNI 6), .inl (cI, 30, .inl NI_untoldAt))] sz)) 0 0 (va_A [(NI, .inr (4, oX4 FL aNI NI_count NI_time)), ((aNI 6), .inl (cI, 30, .inl NI_untoldAt))] sz) := by
  refine Met.ofW (cc := cX4_takeBack) (maxL := 2) (ret := (some .boolean)) (by decide) rfl ?_
  intro p e s m args below meth c s₁ B hml hv
  obtain ⟨rfl, hsz, hP, hK, hD0, hNw⟩ := hv
  have hx := B.exec
  have hb := B.bytes
  have hr := B.returns
  have hts := atoms_spec (ws := wsX4_takeBack) B.pre
  have hown : s.vm.findClass RX4 = some m.cls := findClass_of_methodNamed B.named
  have hlocks := B.notSynchronized
  clear B
  subst hsz
  have hD := hD0.self (sz := s.heap.size)
  clear hD0 hNw
  generalize hAe : va_A [(NI, .inr (4, oX4 FL aNI NI_count NI_time)), ((aNI 6), .inl (cI, 30, .inl NI_untoldAt))] s.heap.size = A at hD ⊢
  have hA : ∀ q : Nat, s.heap.size ≤ q → A q := fun q h => by rw [← hAe]; exact Or.inr h
  have hS : va_S A s.heap s.heap [] := va_S.rf
  clear hAe
  obtain ⟨H, hH⟩ : ∃ H : Heap, H = s.heap := ⟨_, rfl⟩
  obtain ⟨locs, hlocs⟩ : ∃ L : List Loc, L = [] := ⟨_, rfl⟩
  replace hP : va_P D classes [(NI, .inr (4, oX4 FL aNI NI_count NI_time)), ((aNI 6), .inl (cI, 30, .inl NI_untoldAt))] H := by rw [hH]; exact hP
  replace hS : va_S A s.heap H locs := by rw [hH, hlocs]; exact hS
  rw [← hH, ← hlocs]
  clear hlocs hH
  have hl := lv_entry ([.ref NI, .int x0]) (n := 2) (Nat.le_of_ble_eq_true rfl)
  rw [lg_entry_eq]
  generalize (lg_sl ([.ref NI, .int x0]) ++ List.replicate (2 - (lg_sl ([.ref NI, .int x0])).length) Slot.unset).toArray = ls at hl ⊢
  replace hl : lv_has ls 2 [(0, .ref NI), (1, .int x0)] := hl
  refine lv_iload_n hx hb dX4_takeBack_0 rfl (lv_at hl 1 rfl) ?_
  refine lv_if_lt (tgt := 22) hx hb dX4_takeBack_1 (by decide) (fun c1 => ?_) (fun c1 => ?_)
  · have bx1t_x0 : zB x0 (-2147483648) (-1) := zB_ltu (zl c1) (zB_top x0) (show zB 0 0 0 from ⟨by decide, by decide⟩) (by decide)
    refine lv_iconst (v := 0) hx hb dX4_takeBack_22 (by decide) ?_
    exact W.zret (v := 0) (ty := .boolean) hx hb hr (by decide) (fun t ht hW => ⟨⟨0, (), rfl, Or.inl rfl, ⟨NI_untoldAt, by rw [ht]; exact hP, hD⟩⟩, hS.F ht⟩) hS.2.2 dX4_takeBack_23
  · have by1f_x0 : zB x0 0 2147483647 := zB_lev (zg c1) (show zB 0 0 0 from ⟨by decide, by decide⟩) (zB_top x0) (by decide)
    refine lv_iload_n hx hb dX4_takeBack_4 rfl (lv_at hl 1 rfl) ?_
    refine lv_aload_n hx hb dX4_takeBack_5 rfl (lv_at hl 0 rfl) ?_
    refine va_get (D := D) (ci := 4) (v := .int NI_count) (C := RX4) (T := TX4) (N := 10) hx hb hts iw_X4_takeBack_X4 hown hK hP 0 rfl rfl 1 (by decide) (hts (.fieldLink RX4 37 "SoldHouse$Night" "count" "I") (List.mem_of_getElem? (i := 1) rfl)) (fun _ h9 => h9) rfl dX4_takeBack_6 ?_
    refine lv_icmp_ge (tgt := 22) hx hb dX4_takeBack_9 (by decide) (fun c9 => ?_) (fun c9 => ?_)
    · refine lv_iconst (v := 0) hx hb dX4_takeBack_22 (by decide) ?_
      exact W.zret (v := 0) (ty := .boolean) hx hb hr (by decide) (fun t ht hW => ⟨⟨0, (), rfl, Or.inl rfl, ⟨NI_untoldAt, by rw [ht]; exact hP, hD⟩⟩, hS.F ht⟩) hS.2.2 dX4_takeBack_23
    · have bx9f_x0 : zB x0 0 29 := zB_ltu (zf c9) by1f_x0 b_NI_count (by decide)
      have by9f_NI_count : zB NI_count 1 30 := zB_ltv (zf c9) bx9f_x0 b_NI_count (by decide)
      refine lv_aload_n hx hb dX4_takeBack_12 rfl (lv_at hl 0 rfl) ?_
      refine va_get (D := D) (ci := 4) (v := .ref (aNI 6)) (C := RX4) (T := TX4) (N := 10) hx hb hts iw_X4_takeBack_X4 hown hK hP 0 rfl rfl 6 (by decide) (hts (.fieldLink RX4 21 "SoldHouse$Night" "untoldAt" "[I") (List.mem_of_getElem? (i := 2) rfl)) (fun _ h9 => h9) rfl dX4_takeBack_13 ?_
      refine lv_iload_n hx hb dX4_takeBack_16 rfl (lv_at hl 1 rfl) ?_
      refine va_iald hx hb hK hP 1 0 rfl rfl (zB_in bx9f_x0 (by decide) (by decide)) dX4_takeBack_17 ?_
      refine lv_topi (fun y17 _ => ?_)
      refine lv_iconst (v := (-1)) hx hb dX4_takeBack_18 (by decide) ?_
      refine lv_icmp_eq (tgt := 24) hx hb dX4_takeBack_19 (by decide) (fun c19 => ?_) (fun c19 => ?_)
      · have be19t_y17 : zB y17 (-1) (-1) := zB_eq c19 (zB_top y17) (show zB (-1) (-1) (-1) from ⟨by decide, by decide⟩) (by decide) (by decide)
        refine lv_aload_n hx hb dX4_takeBack_24 rfl (lv_at hl 0 rfl) ?_
        refine va_get (D := D) (ci := 4) (v := .ref (aNI 6)) (C := RX4) (T := TX4) (N := 10) hx hb hts iw_X4_takeBack_X4 hown hK hP 0 rfl rfl 6 (by decide) (hts (.fieldLink RX4 21 "SoldHouse$Night" "untoldAt" "[I") (List.mem_of_getElem? (i := 2) rfl)) (fun _ h9 => h9) rfl dX4_takeBack_25 ?_
        refine lv_iload_n hx hb dX4_takeBack_28 rfl (lv_at hl 1 rfl) ?_
        refine lv_aload_n hx hb dX4_takeBack_29 rfl (lv_at hl 0 rfl) ?_
        refine va_get (D := D) (ci := 4) (v := .int NI_time) (C := RX4) (T := TX4) (N := 10) hx hb hts iw_X4_takeBack_X4 hown hK hP 0 rfl rfl 2 (by decide) (hts (.fieldLink RX4 41 "SoldHouse$Night" "time" "I") (List.mem_of_getElem? (i := 3) rfl)) (fun _ h9 => h9) rfl dX4_takeBack_30 ?_
        refine zi_iast hx hb hK hP hD hS 1 0 rfl rfl (zB_in bx9f_x0 (by decide) (by decide)) dX4_takeBack_33 (fun H locs g33 eg33 hP hD hS => ?_)
        replace hP : va_P D classes [(NI, .inr (4, oX4 FL aNI NI_count NI_time)), ((aNI 6), .inl (cI, 30, .inl g33))] H := hP
        replace hD : va_D A [(NI, .inr (4, oX4 FL aNI NI_count NI_time)), ((aNI 6), .inl (cI, 30, .inl g33))] := hD
        clear eg33
        refine lv_iconst (v := 1) hx hb dX4_takeBack_34 (by decide) ?_
        exact W.zret (v := 1) (ty := .boolean) hx hb hr (by decide) (fun t ht hW => ⟨⟨1, (), rfl, Or.inr (⟨rfl, bx9f_x0⟩), ⟨g33, by rw [ht]; exact hP, hD⟩⟩, hS.F ht⟩) hS.2.2 dX4_takeBack_35
      · refine lv_iconst (v := 0) hx hb dX4_takeBack_22 (by decide) ?_
        exact W.zret (v := 0) (ty := .boolean) hx hb hr (by decide) (fun t ht hW => ⟨⟨0, (), rfl, Or.inl rfl, ⟨NI_untoldAt, by rw [ht]; exact hP, hD⟩⟩, hS.F ht⟩) hS.2.2 dX4_takeBack_23
set_option maxHeartbeats 4000000 in
set_option maxRecDepth 100000 in
theorem c_X4_through (l : Launch) (D : va_G) (cI : ClassId) (cB : ClassId) (cL : ClassId) (cZ : ClassId) (cG : ClassId) (NI : Nat) (x0 : Int32) (x1 : Int32) (FL : Nat) (NI_count : Int32) (NI_time : Int32) (aNI : Nat → Nat) (NI_into : Nat → Int32) (NI_onward : Nat → Int32) (b_x0 : zB x0 0 7) (b_x1 : zB x1 0 7) (b_NI_count : zB NI_count 0 30) (b_NI_time : zB NI_time 0 100000) : Met l yX4_through wsX4_through ({ frames := 0, cells := 0, slots := 0, locals := 0 }) (xr D [(cI, .int), (cB, .byte), (cL, .long), (cZ, .boolean), (cG, .array .int)] [(NI, .inr (4, oX4 FL aNI NI_count NI_time)), ((aNI 8), .inl (cI, 64, .inl NI_into)), ((aNI 9), .inl (cI, 64, .inl NI_onward))] [.ref NI, .int x0, .int x1]) (vp_Si (fun r => True)) 0 0 (fun _ => False) := by
  refine Met.ofW (cc := cX4_through) (maxL := 3) (ret := (some .int)) (by decide) rfl ?_
  intro p e s m args below meth c s₁ B hml hv
  obtain ⟨rfl, hP, hK⟩ := hv
  have hx := B.exec
  have hb := B.bytes
  have hr := B.returns
  have hts := atoms_spec (ws := wsX4_through) B.pre
  have hown : s.vm.findClass RX4 = some m.cls := findClass_of_methodNamed B.named
  have hlocks := B.notSynchronized
  clear B
  have hl := lv_entry ([.ref NI, .int x0, .int x1]) (n := 3) (Nat.le_of_ble_eq_true rfl)
  rw [lg_entry_eq]
  generalize (lg_sl ([.ref NI, .int x0, .int x1]) ++ List.replicate (3 - (lg_sl ([.ref NI, .int x0, .int x1])).length) Slot.unset).toArray = ls at hl ⊢
  replace hl : lv_has ls 3 [(0, .ref NI), (1, .int x0), (2, .int x1)] := hl
  refine lv_aload_n hx hb dX4_through_0 rfl (lv_at hl 0 rfl) ?_
  refine va_get (D := D) (ci := 4) (v := .ref (aNI 8)) (C := RX4) (T := TX4) (N := 10) hx hb hts iw_X4_through_X4 hown hK hP 0 rfl rfl 8 (by decide) (hts (.fieldLink RX4 27 "SoldHouse$Night" "into" "[I") (List.mem_of_getElem? (i := 1) rfl)) (fun _ h9 => h9) rfl dX4_through_1 ?_
  refine lv_iload_n hx hb dX4_through_4 rfl (lv_at hl 1 rfl) ?_
  refine lv_bipush (v := 8) hx hb dX4_through_5 (by decide) ?_
  refine lv_imul hx hb dX4_through_7 ?_
  refine zi_top (a := 0) (b := 56) (zB_mul b_x0 (show zB 8 8 8 from ⟨by decide, by decide⟩) (by decide) (by decide) (by decide) (by decide) (by decide)) (fun y7 by7 => ?_)
  refine lv_iload_n hx hb dX4_through_8 rfl (lv_at hl 2 rfl) ?_
  refine lv_iadd hx hb dX4_through_9 ?_
  refine zi_top (a := 0) (b := 63) (zB_add by7 b_x1 (by decide) (by decide) (by decide) (by decide)) (fun y9 by9 => ?_)
  refine va_iald hx hb hK hP 1 0 rfl rfl (zB_in by9 (by decide) (by decide)) dX4_through_10 ?_
  refine lv_topi (fun y10 _ => ?_)
  refine lv_aload_n hx hb dX4_through_11 rfl (lv_at hl 0 rfl) ?_
  refine va_get (D := D) (ci := 4) (v := .ref (aNI 9)) (C := RX4) (T := TX4) (N := 10) hx hb hts iw_X4_through_X4 hown hK hP 0 rfl rfl 9 (by decide) (hts (.fieldLink RX4 30 "SoldHouse$Night" "onward" "[I") (List.mem_of_getElem? (i := 2) rfl)) (fun _ h9 => h9) rfl dX4_through_12 ?_
  refine lv_iload_n hx hb dX4_through_15 rfl (lv_at hl 1 rfl) ?_
  refine lv_bipush (v := 8) hx hb dX4_through_16 (by decide) ?_
  refine lv_imul hx hb dX4_through_18 ?_
  refine zi_top (a := 0) (b := 56) (zB_mul b_x0 (show zB 8 8 8 from ⟨by decide, by decide⟩) (by decide) (by decide) (by decide) (by decide) (by decide)) (fun y18 by18 => ?_)
  refine lv_iload_n hx hb dX4_through_19 rfl (lv_at hl 2 rfl) ?_
  refine lv_iadd hx hb dX4_through_20 ?_
  refine zi_top (a := 0) (b := 63) (zB_add by18 b_x1 (by decide) (by decide) (by decide) (by decide)) (fun y20 by20 => ?_)
  refine va_iald hx hb hK hP 2 0 rfl rfl (zB_in by20 (by decide) (by decide)) dX4_through_21 ?_
  refine lv_topi (fun y21 _ => ?_)
  refine lv_imul hx hb dX4_through_22 ?_
  refine lv_topi (fun y22 _ => ?_)
  exact W.iret (v := y22) hx hb hr (fun t ht hW => ⟨y22, rfl, trivial, ht⟩) (fun q hq => by cases hq) dX4_through_23
set_option maxHeartbeats 4000000 in
set_option maxRecDepth 100000 in
theorem c_X4_openRooms (l : Launch) (D : va_G) (cI : ClassId) (cB : ClassId) (cL : ClassId) (cZ : ClassId) (cG : ClassId) (NI : Nat) (x0 : Int32) (FL : Nat) (NI_count : Int32) (NI_time : Int32) (aNI : Nat → Nat) (NI_open : Nat → Int32) (NI_untoldAt : Nat → Int32) (NI_toldAt : Nat → Int32) (NI_minute : Nat → Int32) (NI_rooms : Nat → Int32) (sz : Nat) (b_NI_count : zB NI_count 0 30) (b_NI_time : zB NI_time 0 100000) (s_NI_minute_0 : zA NI_minute 0 30 0 7) : Met l yX4_openRooms wsX4_openRooms ({ frames := 1, cells := 0, slots := 0, locals := 23 }) (xp D [(cI, .int), (cB, .byte), (cL, .long), (cZ, .boolean), (cG, .array .int)] [(NI, .inr (4, oX4 FL aNI NI_count NI_time)), ((aNI 7), .inl (cI, 8, .inl NI_open)), ((aNI 6), .inl (cI, 30, .inl NI_untoldAt)), ((aNI 5), .inl (cI, 30, .inl NI_toldAt)), ((aNI 3), .inl (cI, 30, .inl NI_minute)), ((aNI 4), .inl (cI, 30, .inl NI_rooms))] sz [] [.ref NI, .int x0]) (va_Qv (fun _ : Unit => True) (fun (_ : Unit) (t : State) => ∃ (nNIopen : Nat → Int32), xB D (va_A [(NI, .inr (4, oX4 FL aNI NI_count NI_time)), ((aNI 7), .inl (cI, 8, .inl NI_open)), ((aNI 6), .inl (cI, 30, .inl NI_untoldAt)), ((aNI 5), .inl (cI, 30, .inl NI_toldAt)), ((aNI 3), .inl (cI, 30, .inl NI_minute)), ((aNI 4), .inl (cI, 30, .inl NI_rooms))] sz) [(NI, .inr (4, oX4 FL aNI NI_count NI_time)), ((aNI 7), .inl (cI, 8, .inl nNIopen)), ((aNI 6), .inl (cI, 30, .inl NI_untoldAt)), ((aNI 5), .inl (cI, 30, .inl NI_toldAt)), ((aNI 3), .inl (cI, 30, .inl NI_minute)), ((aNI 4), .inl (cI, 30, .inl NI_rooms))] t) (va_A [(NI, .inr (4, oX4 FL aNI NI_count NI_time)), ((aNI 7), .inl (cI, 8, .inl NI_open)), ((aNI 6), .inl (cI, 30, .inl NI_untoldAt)), ((aNI 5), .inl (cI, 30, .inl NI_toldAt)), ((aNI 3), .inl (cI, 30, .inl NI_minute)), ((aNI 4), .inl (cI, 30, .inl NI_rooms))] sz)) 0 0 (va_A [(NI, .inr (4, oX4 FL aNI NI_count NI_time)), ((aNI 7), .inl (cI, 8, .inl NI_open)), ((aNI 6), .inl (cI, 30, .inl NI_untoldAt)), ((aNI 5), .inl (cI, 30, .inl NI_toldAt)), ((aNI 3), .inl (cI, 30, .inl NI_minute)), ((aNI 4), .inl (cI, 30, .inl NI_rooms))] sz) := by
  refine Met.ofW (cc := cX4_openRooms) (maxL := 4) (ret := none) (by decide) rfl ?_
  intro p e s m args below meth c s₁ B hml hv
  obtain ⟨rfl, hsz, hP, hK, hD0, hNw⟩ := hv
  have hx := B.exec
  have hb := B.bytes
  have hr := B.returns
  have hts := atoms_spec (ws := wsX4_openRooms) B.pre
  have hown : s.vm.findClass RX4 = some m.cls := findClass_of_methodNamed B.named
  have hlocks := B.notSynchronized
  clear B
  subst hsz
  have hD := hD0.self (sz := s.heap.size)
  clear hD0 hNw
  generalize hAe : va_A [(NI, .inr (4, oX4 FL aNI NI_count NI_time)), ((aNI 7), .inl (cI, 8, .inl NI_open)), ((aNI 6), .inl (cI, 30, .inl NI_untoldAt)), ((aNI 5), .inl (cI, 30, .inl NI_toldAt)), ((aNI 3), .inl (cI, 30, .inl NI_minute)), ((aNI 4), .inl (cI, 30, .inl NI_rooms))] s.heap.size = A at hD ⊢
  have hA : ∀ q : Nat, s.heap.size ≤ q → A q := fun q h => by rw [← hAe]; exact Or.inr h
  have hS : va_S A s.heap s.heap [] := va_S.rf
  clear hAe
  obtain ⟨H, hH⟩ : ∃ H : Heap, H = s.heap := ⟨_, rfl⟩
  obtain ⟨locs, hlocs⟩ : ∃ L : List Loc, L = [] := ⟨_, rfl⟩
  replace hP : va_P D classes [(NI, .inr (4, oX4 FL aNI NI_count NI_time)), ((aNI 7), .inl (cI, 8, .inl NI_open)), ((aNI 6), .inl (cI, 30, .inl NI_untoldAt)), ((aNI 5), .inl (cI, 30, .inl NI_toldAt)), ((aNI 3), .inl (cI, 30, .inl NI_minute)), ((aNI 4), .inl (cI, 30, .inl NI_rooms))] H := by rw [hH]; exact hP
  replace hS : va_S A s.heap H locs := by rw [hH, hlocs]; exact hS
  rw [← hH, ← hlocs]
  clear hlocs hH
  have hl := lv_entry ([.ref NI, .int x0]) (n := 4) (Nat.le_of_ble_eq_true rfl)
  rw [lg_entry_eq]
  generalize (lg_sl ([.ref NI, .int x0]) ++ List.replicate (4 - (lg_sl ([.ref NI, .int x0])).length) Slot.unset).toArray = ls at hl ⊢
  replace hl : lv_has ls 4 [(0, .ref NI), (1, .int x0)] := hl
  refine zz_abs (R := ({ frames := 1, cells := 0, slots := 0, locals := 23 } : Room)) (fun Q up => ?_)
  refine lv_aload_n hx hb dX4_openRooms_0 rfl (lv_at hl 0 rfl) ?_
  refine va_get (D := D) (ci := 4) (v := .ref (aNI 7)) (C := RX4) (T := TX4) (N := 10) hx hb hts iw_X4_openRooms_X4 hown hK hP 0 rfl rfl 7 (by decide) (hts (.fieldLink RX4 24 "SoldHouse$Night" "open" "[I") (List.mem_of_getElem? (i := 1) rfl)) (fun _ h9 => h9) rfl dX4_openRooms_1 ?_
  refine lv_iconst (v := (-1)) hx hb dX4_openRooms_4 (by decide) ?_
  have hPc := hP.sub (ws' := [((aNI 7), .inl (cI, 8, .inl NI_open))]) [1] rfl
  have hDc := hD.sub (ws' := [((aNI 7), .inl (cI, 8, .inl NI_open))]) [1] (by decide) rfl
  have hFc := va_free (wc := [((aNI 7), .inl (cI, 8, .inl NI_open))]) hD hS hA [1] rfl
  refine va_callv (va_runS (As := [.ref (aNI 7), .int (-1)]) (rest := []) ⟨hx, hb, hml, hown, hts⟩ (c_fill8 l D cI cB cL cZ cG (aNI 7) NI_open (-1) H.size) (va_cwS 2 hts gX4_openRooms_J7_fill_53178 rfl rfl rfl (by decide +kernel) ⟨Nat.le_of_ble_eq_true rfl, Nat.le_of_ble_eq_true rfl⟩) ⟨xp_blind, fun U hU hW => xp_mk hU hW hPc hK hDc xNw_nil⟩ rfl rfl hl.1 rfl (lv_room (Nat.le_of_ble_eq_true rfl)) dX4_openRooms_5 ⟨Nat.le_of_ble_eq_true rfl, Nat.le_of_ble_eq_true rfl⟩) hS (fun q _ h => hFc q h) hFc (fun u9 t9 H1 locs ht9 hvm9 hr5 hB9 hz9 hk9 hS => ?_)
  obtain ⟨o5_narf, hP1, hD1⟩ := hB9
  rw [ht9] at hP1
  obtain ⟨hP, hD⟩ := va_join (wr := [(NI, .inr (4, oX4 FL aNI NI_count NI_time)), ((aNI 6), .inl (cI, 30, .inl NI_untoldAt)), ((aNI 5), .inl (cI, 30, .inl NI_toldAt)), ((aNI 3), .inl (cI, 30, .inl NI_minute)), ((aNI 4), .inl (cI, 30, .inl NI_rooms))]) (w1 := [((aNI 7), .inl (cI, 8, .inl o5_narf))]) hP hD [1] [0, 2, 3, 4, 5] rfl rfl (by decide) (by decide) hk9 hFc hP1 hD1
  clear hz9 hPc hDc hP1 hD1 hk9 hFc ht9 hvm9 u9 t9
  generalize H1 = H at hP hS ⊢
  replace hP : va_P D classes [(NI, .inr (4, oX4 FL aNI NI_count NI_time)), ((aNI 7), .inl (cI, 8, .inl o5_narf)), ((aNI 6), .inl (cI, 30, .inl NI_untoldAt)), ((aNI 5), .inl (cI, 30, .inl NI_toldAt)), ((aNI 3), .inl (cI, 30, .inl NI_minute)), ((aNI 4), .inl (cI, 30, .inl NI_rooms))] H := hP.sub [0, 5, 1, 2, 3, 4] rfl
  replace hD : va_D A [(NI, .inr (4, oX4 FL aNI NI_count NI_time)), ((aNI 7), .inl (cI, 8, .inl o5_narf)), ((aNI 6), .inl (cI, 30, .inl NI_untoldAt)), ((aNI 5), .inl (cI, 30, .inl NI_toldAt)), ((aNI 3), .inl (cI, 30, .inl NI_minute)), ((aNI 4), .inl (cI, 30, .inl NI_rooms))] := hD.sub [0, 5, 1, 2, 3, 4] (by decide) rfl
  refine lv_iconst (v := 0) hx hb dX4_openRooms_8 (by decide) ?_
  have j10 : ∀ (n10 : Nat) (H : Heap) (locs : List Loc) (ls : Array Slot) (v10_2 : Int32) (g10_aNI7 : Nat → Int32), zB v10_2 0 30 → zA NI_minute 0 30 0 7 → (30 + 1 - v10_2.toInt) ≤ (n10 : Int) → va_P D classes [(NI, .inr (4, oX4 FL aNI NI_count NI_time)), ((aNI 7), .inl (cI, 8, .inl g10_aNI7)), ((aNI 6), .inl (cI, 30, .inl NI_untoldAt)), ((aNI 5), .inl (cI, 30, .inl NI_toldAt)), ((aNI 3), .inl (cI, 30, .inl NI_minute)), ((aNI 4), .inl (cI, 30, .inl NI_rooms))] H → va_D A [(NI, .inr (4, oX4 FL aNI NI_count NI_time)), ((aNI 7), .inl (cI, 8, .inl g10_aNI7)), ((aNI 6), .inl (cI, 30, .inl NI_untoldAt)), ((aNI 5), .inl (cI, 30, .inl NI_toldAt)), ((aNI 3), .inl (cI, 30, .inl NI_minute)), ((aNI 4), .inl (cI, 30, .inl NI_rooms))] → va_S A s.heap H locs → lv_has ls 4 [(2, .int v10_2), (0, .ref NI), (1, .int x0)] → W p l e ({ frames := 1, cells := 0, slots := 0, locals := 23 } : Room) s m ([.ref NI, .int x0] : List Value).toArray below meth c H locs 0 0 Q (F0 m 10 ls []) := by
    intro n10
    induction n10 with
    | zero => intro H locs ls v10_2 g10_aNI7 bv10_2_k10 sNI_minute_0_k10 hm10 hP hD hS hl; exact zM_u0 bv10_2_k10 hm10
    | succ n10 ih10 =>
      intro H locs ls v10_2 g10_aNI7 bv10_2_k10 sNI_minute_0_k10 hm10 hP hD hS hl
      refine lv_iload_n hx hb dX4_openRooms_10 rfl (lv_at hl 0 rfl) ?_
      refine lv_aload_n hx hb dX4_openRooms_11 rfl (lv_at hl 1 rfl) ?_
      refine va_get (D := D) (ci := 4) (v := .int NI_count) (C := RX4) (T := TX4) (N := 10) hx hb hts iw_X4_openRooms_X4 hown hK hP 0 rfl rfl 1 (by decide) (hts (.fieldLink RX4 37 "SoldHouse$Night" "count" "I") (List.mem_of_getElem? (i := 2) rfl)) (fun _ h9 => h9) rfl dX4_openRooms_12 ?_
      refine lv_icmp_ge (tgt := 84) hx hb dX4_openRooms_15 (by decide) (fun c15 => ?_) (fun c15 => ?_)
      · exact up _ _ _ (W.vret hx hb hr (fun t ht hW => ⟨⟨(), rfl, trivial, ⟨g10_aNI7, by rw [ht]; exact hP, hD⟩⟩, hS.F ht⟩) hS.2.2 dX4_openRooms_84)
      · have bx15f_v10_2 : zB v10_2 0 29 := zB_ltu (zf c15) bv10_2_k10 b_NI_count (by decide)
        have by15f_NI_count : zB NI_count 1 30 := zB_ltv (zf c15) bx15f_v10_2 b_NI_count (by decide)
        refine lv_aload_n hx hb dX4_openRooms_18 rfl (lv_at hl 1 rfl) ?_
        refine va_get (D := D) (ci := 4) (v := .ref (aNI 6)) (C := RX4) (T := TX4) (N := 10) hx hb hts iw_X4_openRooms_X4 hown hK hP 0 rfl rfl 6 (by decide) (hts (.fieldLink RX4 21 "SoldHouse$Night" "untoldAt" "[I") (List.mem_of_getElem? (i := 3) rfl)) (fun _ h9 => h9) rfl dX4_openRooms_19 ?_
        refine lv_iload_n hx hb dX4_openRooms_22 rfl (lv_at hl 0 rfl) ?_
        refine va_iald hx hb hK hP 2 0 rfl rfl (zB_in bx15f_v10_2 (by decide) (by decide)) dX4_openRooms_23 ?_
        refine lv_topi (fun y23 _ => ?_)
        refine lv_iconst (v := (-1)) hx hb dX4_openRooms_24 (by decide) ?_
        have j43 : ∀ (H : Heap) (locs : List Loc) (ls : Array Slot) (u43_0 : Int32), zB u43_0 0 1 → zA NI_minute 0 30 0 7 → va_P D classes [(NI, .inr (4, oX4 FL aNI NI_count NI_time)), ((aNI 7), .inl (cI, 8, .inl g10_aNI7)), ((aNI 6), .inl (cI, 30, .inl NI_untoldAt)), ((aNI 5), .inl (cI, 30, .inl NI_toldAt)), ((aNI 3), .inl (cI, 30, .inl NI_minute)), ((aNI 4), .inl (cI, 30, .inl NI_rooms))] H → va_D A [(NI, .inr (4, oX4 FL aNI NI_count NI_time)), ((aNI 7), .inl (cI, 8, .inl g10_aNI7)), ((aNI 6), .inl (cI, 30, .inl NI_untoldAt)), ((aNI 5), .inl (cI, 30, .inl NI_toldAt)), ((aNI 3), .inl (cI, 30, .inl NI_minute)), ((aNI 4), .inl (cI, 30, .inl NI_rooms))] → va_S A s.heap H locs → lv_has ls 4 [(2, .int v10_2), (0, .ref NI), (1, .int x0)] → W p l e ({ frames := 1, cells := 0, slots := 0, locals := 23 } : Room) s m ([.ref NI, .int x0] : List Value).toArray below meth c H locs 0 0 Q (F0 m 43 ls [.int u43_0]) := by
          intro H locs ls u43_0 bu43_0_k43 sNI_minute_0_k43 hP hD hS hl
          refine lv_istore_n (lv' := [(3, .int u43_0), (2, .int v10_2), (0, .ref NI), (1, .int x0)]) hx hb dX4_openRooms_43 rfl hl (by decide) rfl (fun ls hl => ?_)
          refine lv_aload_n hx hb dX4_openRooms_44 rfl (lv_at hl 2 rfl) ?_
          refine va_get (D := D) (ci := 4) (v := .ref (aNI 5)) (C := RX4) (T := TX4) (N := 10) hx hb hts iw_X4_openRooms_X4 hown hK hP 0 rfl rfl 5 (by decide) (hts (.fieldLink RX4 18 "SoldHouse$Night" "toldAt" "[I") (List.mem_of_getElem? (i := 4) rfl)) (fun _ h9 => h9) rfl dX4_openRooms_45 ?_
          refine lv_iload_n hx hb dX4_openRooms_48 rfl (lv_at hl 1 rfl) ?_
          refine va_iald hx hb hK hP 3 0 rfl rfl (zB_in bx15f_v10_2 (by decide) (by decide)) dX4_openRooms_49 ?_
          refine lv_topi (fun y49 _ => ?_)
          refine lv_iload_n hx hb dX4_openRooms_50 rfl (lv_at hl 3 rfl) ?_
          have j78 : ∀ (H : Heap) (locs : List Loc) (ls : Array Slot) (g78_aNI7 : Nat → Int32), zA NI_minute 0 30 0 7 → va_P D classes [(NI, .inr (4, oX4 FL aNI NI_count NI_time)), ((aNI 7), .inl (cI, 8, .inl g78_aNI7)), ((aNI 6), .inl (cI, 30, .inl NI_untoldAt)), ((aNI 5), .inl (cI, 30, .inl NI_toldAt)), ((aNI 3), .inl (cI, 30, .inl NI_minute)), ((aNI 4), .inl (cI, 30, .inl NI_rooms))] H → va_D A [(NI, .inr (4, oX4 FL aNI NI_count NI_time)), ((aNI 7), .inl (cI, 8, .inl g78_aNI7)), ((aNI 6), .inl (cI, 30, .inl NI_untoldAt)), ((aNI 5), .inl (cI, 30, .inl NI_toldAt)), ((aNI 3), .inl (cI, 30, .inl NI_minute)), ((aNI 4), .inl (cI, 30, .inl NI_rooms))] → va_S A s.heap H locs → lv_has ls 4 [(3, .int u43_0), (2, .int v10_2), (0, .ref NI), (1, .int x0)] → W p l e ({ frames := 1, cells := 0, slots := 0, locals := 23 } : Room) s m ([.ref NI, .int x0] : List Value).toArray below meth c H locs 0 0 Q (F0 m 78 ls []) := by
            intro H locs ls g78_aNI7 sNI_minute_0_k78 hP hD hS hl
            obtain ⟨y78, by78, ry78, ey78⟩ := zi_inc (x := v10_2) (k := 1) (a := 1) (b := 30) bx15f_v10_2 (by decide) (by decide) (by decide) (by decide) (by decide)
            refine lv_iinc (v := y78) (lv' := [(2, .int y78), (3, .int u43_0), (0, .ref NI), (1, .int x0)]) hx hb dX4_openRooms_78 hl (k := 1) rfl ey78 (by decide) rfl (fun ls hl => ?_)
            refine lv_goto (tgt := 10) hx hb dX4_openRooms_81 (by decide) ?_
            exact ih10 H locs ls y78 g78_aNI7 (zB_w by78 (by decide) (by decide)) sNI_minute_0_k78 (zM_us (k := 1) hm10 ry78 (by decide)) hP hD hS (lv_sub hl [0, 2, 3] rfl)
          refine lv_icmp_gt (tgt := 78) hx hb dX4_openRooms_51 (by decide) (fun c51 => ?_) (fun c51 => ?_)
          · have bx51t_x0 : zB x0 (-2147483648) 2147483646 := zB_ltu (zl c51) (zB_top x0) (zB_top y49) (by decide)
            have by51t_y49 : zB y49 (-2147483647) 2147483647 := zB_ltv (zl c51) bx51t_x0 (zB_top y49) (by decide)
            exact j78 H locs ls g10_aNI7 sNI_minute_0_k43 hP hD hS (lv_sub hl [0, 1, 2, 3] rfl)
          · refine lv_iload_n hx hb dX4_openRooms_54 rfl (lv_at hl 0 rfl) ?_
            refine lv_if_ne (tgt := 78) hx hb dX4_openRooms_55 (by decide) (fun c55 => ?_) (fun c55 => ?_)
            · have bn55t_u43_0 : zB u43_0 1 1 := zB_neL c55 bu43_0_k43 (show zB 0 0 0 from ⟨by decide, by decide⟩) (by decide)
              exact j78 H locs ls g10_aNI7 sNI_minute_0_k43 hP hD hS (lv_sub hl [0, 1, 2, 3] rfl)
            · have be55f_u43_0 : zB u43_0 0 0 := zB_eq c55 bu43_0_k43 (show zB 0 0 0 from ⟨by decide, by decide⟩) (by decide) (by decide)
              refine lv_aload_n hx hb dX4_openRooms_58 rfl (lv_at hl 2 rfl) ?_
              refine va_get (D := D) (ci := 4) (v := .ref (aNI 7)) (C := RX4) (T := TX4) (N := 10) hx hb hts iw_X4_openRooms_X4 hown hK hP 0 rfl rfl 7 (by decide) (hts (.fieldLink RX4 24 "SoldHouse$Night" "open" "[I") (List.mem_of_getElem? (i := 1) rfl)) (fun _ h9 => h9) rfl dX4_openRooms_59 ?_
              refine lv_aload_n hx hb dX4_openRooms_62 rfl (lv_at hl 2 rfl) ?_
              refine va_get (D := D) (ci := 4) (v := .ref (aNI 3)) (C := RX4) (T := TX4) (N := 10) hx hb hts iw_X4_openRooms_X4 hown hK hP 0 rfl rfl 3 (by decide) (hts (.fieldLink RX4 11 "SoldHouse$Night" "minute" "[I") (List.mem_of_getElem? (i := 5) rfl)) (fun _ h9 => h9) rfl dX4_openRooms_63 ?_
              refine lv_iload_n hx hb dX4_openRooms_66 rfl (lv_at hl 1 rfl) ?_
              refine va_iald hx hb hK hP 4 0 rfl rfl (zB_in bx15f_v10_2 (by decide) (by decide)) dX4_openRooms_67 ?_
              refine zi_top (a := 0) (b := 7) (zA_at sNI_minute_0_k43 bx15f_v10_2 (by decide) (by decide)) (fun y67 by67 => ?_)
              refine lv_dup2_11 hx hb dX4_openRooms_68 rfl rfl ?_
              refine va_iald hx hb hK hP 1 0 rfl rfl (zB_in by67 (by decide) (by decide)) dX4_openRooms_69 ?_
              refine lv_topi (fun y69 _ => ?_)
              refine lv_aload_n hx hb dX4_openRooms_70 rfl (lv_at hl 2 rfl) ?_
              refine va_get (D := D) (ci := 4) (v := .ref (aNI 4)) (C := RX4) (T := TX4) (N := 10) hx hb hts iw_X4_openRooms_X4 hown hK hP 0 rfl rfl 4 (by decide) (hts (.fieldLink RX4 15 "SoldHouse$Night" "rooms" "[I") (List.mem_of_getElem? (i := 6) rfl)) (fun _ h9 => h9) rfl dX4_openRooms_71 ?_
              refine lv_iload_n hx hb dX4_openRooms_74 rfl (lv_at hl 1 rfl) ?_
              refine va_iald hx hb hK hP 5 0 rfl rfl (zB_in bx15f_v10_2 (by decide) (by decide)) dX4_openRooms_75 ?_
              refine lv_topi (fun y75 _ => ?_)
              refine lv_iand hx hb dX4_openRooms_76 ?_
              refine lv_topi (fun y76 _ => ?_)
              refine zi_iast hx hb hK hP hD hS 1 0 rfl rfl (zB_in by67 (by decide) (by decide)) dX4_openRooms_77 (fun H locs g77 eg77 hP hD hS => ?_)
              replace hP : va_P D classes [(NI, .inr (4, oX4 FL aNI NI_count NI_time)), ((aNI 7), .inl (cI, 8, .inl g77)), ((aNI 6), .inl (cI, 30, .inl NI_untoldAt)), ((aNI 5), .inl (cI, 30, .inl NI_toldAt)), ((aNI 3), .inl (cI, 30, .inl NI_minute)), ((aNI 4), .inl (cI, 30, .inl NI_rooms))] H := hP
              replace hD : va_D A [(NI, .inr (4, oX4 FL aNI NI_count NI_time)), ((aNI 7), .inl (cI, 8, .inl g77)), ((aNI 6), .inl (cI, 30, .inl NI_untoldAt)), ((aNI 5), .inl (cI, 30, .inl NI_toldAt)), ((aNI 3), .inl (cI, 30, .inl NI_minute)), ((aNI 4), .inl (cI, 30, .inl NI_rooms))] := hD
              clear eg77
              exact j78 H locs ls g77 sNI_minute_0_k43 hP hD hS (lv_sub hl [0, 1, 2, 3] rfl)
        have j42 : ∀ (H : Heap) (locs : List Loc) (ls : Array Slot), zA NI_minute 0 30 0 7 → va_P D classes [(NI, .inr (4, oX4 FL aNI NI_count NI_time)), ((aNI 7), .inl (cI, 8, .inl g10_aNI7)), ((aNI 6), .inl (cI, 30, .inl NI_untoldAt)), ((aNI 5), .inl (cI, 30, .inl NI_toldAt)), ((aNI 3), .inl (cI, 30, .inl NI_minute)), ((aNI 4), .inl (cI, 30, .inl NI_rooms))] H → va_D A [(NI, .inr (4, oX4 FL aNI NI_count NI_time)), ((aNI 7), .inl (cI, 8, .inl g10_aNI7)), ((aNI 6), .inl (cI, 30, .inl NI_untoldAt)), ((aNI 5), .inl (cI, 30, .inl NI_toldAt)), ((aNI 3), .inl (cI, 30, .inl NI_minute)), ((aNI 4), .inl (cI, 30, .inl NI_rooms))] → va_S A s.heap H locs → lv_has ls 4 [(2, .int v10_2), (0, .ref NI), (1, .int x0)] → W p l e ({ frames := 1, cells := 0, slots := 0, locals := 23 } : Room) s m ([.ref NI, .int x0] : List Value).toArray below meth c H locs 0 0 Q (F0 m 42 ls []) := by
          intro H locs ls sNI_minute_0_k42 hP hD hS hl
          refine lv_iconst (v := 0) hx hb dX4_openRooms_42 (by decide) ?_
          exact j43 H locs ls 0 (zB_w (show zB 0 0 0 from ⟨by decide, by decide⟩) (by decide) (by decide)) sNI_minute_0_k42 hP hD hS (lv_sub hl [0, 1, 2] rfl)
        refine lv_icmp_eq (tgt := 42) hx hb dX4_openRooms_25 (by decide) (fun c25 => ?_) (fun c25 => ?_)
        · have be25t_y23 : zB y23 (-1) (-1) := zB_eq c25 (zB_top y23) (show zB (-1) (-1) (-1) from ⟨by decide, by decide⟩) (by decide) (by decide)
          exact j42 H locs ls sNI_minute_0_k10 hP hD hS (lv_sub hl [0, 1, 2] rfl)
        · refine lv_aload_n hx hb dX4_openRooms_28 rfl (lv_at hl 1 rfl) ?_
          refine va_get (D := D) (ci := 4) (v := .ref (aNI 6)) (C := RX4) (T := TX4) (N := 10) hx hb hts iw_X4_openRooms_X4 hown hK hP 0 rfl rfl 6 (by decide) (hts (.fieldLink RX4 21 "SoldHouse$Night" "untoldAt" "[I") (List.mem_of_getElem? (i := 3) rfl)) (fun _ h9 => h9) rfl dX4_openRooms_29 ?_
          refine lv_iload_n hx hb dX4_openRooms_32 rfl (lv_at hl 0 rfl) ?_
          refine va_iald hx hb hK hP 2 0 rfl rfl (zB_in bx15f_v10_2 (by decide) (by decide)) dX4_openRooms_33 ?_
          refine lv_topi (fun y33 _ => ?_)
          refine lv_iload_n hx hb dX4_openRooms_34 rfl (lv_at hl 2 rfl) ?_
          refine lv_icmp_gt (tgt := 42) hx hb dX4_openRooms_35 (by decide) (fun c35 => ?_) (fun c35 => ?_)
          · have bx35t_x0 : zB x0 (-2147483648) 2147483646 := zB_ltu (zl c35) (zB_top x0) (zB_top y33) (by decide)
            have by35t_y33 : zB y33 (-2147483647) 2147483647 := zB_ltv (zl c35) bx35t_x0 (zB_top y33) (by decide)
            exact j42 H locs ls sNI_minute_0_k10 hP hD hS (lv_sub hl [0, 1, 2] rfl)
          · refine lv_iconst (v := 1) hx hb dX4_openRooms_38 (by decide) ?_
            refine lv_goto (tgt := 43) hx hb dX4_openRooms_39 (by decide) ?_
            exact j43 H locs ls 1 (zB_w (show zB 1 1 1 from ⟨by decide, by decide⟩) (by decide) (by decide)) sNI_minute_0_k10 hP hD hS (lv_sub hl [0, 1, 2] rfl)
  refine lv_istore_n (lv' := [(2, .int 0), (0, .ref NI), (1, .int x0)]) hx hb dX4_openRooms_9 rfl hl (by decide) rfl (fun ls hl => ?_)
  exact j10 31 H locs ls 0 o5_narf (zB_w (show zB 0 0 0 from ⟨by decide, by decide⟩) (by decide) (by decide)) s_NI_minute_0 (zM_ui (show zB 0 0 0 from ⟨by decide, by decide⟩) (by decide)) hP hD hS (lv_sub hl [0, 1, 2] rfl)
set_option maxHeartbeats 4000000 in
set_option maxRecDepth 100000 in
theorem c_X4_isOpen (l : Launch) (D : va_G) (cI : ClassId) (cB : ClassId) (cL : ClassId) (cZ : ClassId) (cG : ClassId) (NI : Nat) (x0 : Int32) (x1 : Int32) (FL : Nat) (NI_count : Int32) (NI_time : Int32) (aNI : Nat → Nat) (NI_open : Nat → Int32) (b_x0 : zB x0 0 7) (b_NI_count : zB NI_count 0 30) (b_NI_time : zB NI_time 0 100000) : Met l yX4_isOpen wsX4_isOpen ({ frames := 0, cells := 0, slots := 0, locals := 0 }) (xr D [(cI, .int), (cB, .byte), (cL, .long), (cZ, .boolean), (cG, .array .int)] [(NI, .inr (4, oX4 FL aNI NI_count NI_time)), ((aNI 7), .inl (cI, 8, .inl NI_open))] [.ref NI, .int x0, .int x1]) (vp_Si (fun r => zB r 0 1)) 0 0 (fun _ => False) := by
  refine Met.ofW (cc := cX4_isOpen) (maxL := 3) (ret := (some .boolean)) (by decide) rfl ?_
  intro p e s m args below meth c s₁ B hml hv
  obtain ⟨rfl, hP, hK⟩ := hv
  have hx := B.exec
  have hb := B.bytes
  have hr := B.returns
  have hts := atoms_spec (ws := wsX4_isOpen) B.pre
  have hown : s.vm.findClass RX4 = some m.cls := findClass_of_methodNamed B.named
  have hlocks := B.notSynchronized
  clear B
  have hl := lv_entry ([.ref NI, .int x0, .int x1]) (n := 3) (Nat.le_of_ble_eq_true rfl)
  rw [lg_entry_eq]
  generalize (lg_sl ([.ref NI, .int x0, .int x1]) ++ List.replicate (3 - (lg_sl ([.ref NI, .int x0, .int x1])).length) Slot.unset).toArray = ls at hl ⊢
  replace hl : lv_has ls 3 [(0, .ref NI), (1, .int x0), (2, .int x1)] := hl
  refine lv_aload_n hx hb dX4_isOpen_0 rfl (lv_at hl 0 rfl) ?_
  refine va_get (D := D) (ci := 4) (v := .ref (aNI 7)) (C := RX4) (T := TX4) (N := 10) hx hb hts iw_X4_isOpen_X4 hown hK hP 0 rfl rfl 7 (by decide) (hts (.fieldLink RX4 24 "SoldHouse$Night" "open" "[I") (List.mem_of_getElem? (i := 1) rfl)) (fun _ h9 => h9) rfl dX4_isOpen_1 ?_
  refine lv_iload_n hx hb dX4_isOpen_4 rfl (lv_at hl 1 rfl) ?_
  refine va_iald hx hb hK hP 1 0 rfl rfl (zB_in b_x0 (by decide) (by decide)) dX4_isOpen_5 ?_
  refine lv_topi (fun y5 _ => ?_)
  refine lv_iload_n hx hb dX4_isOpen_6 rfl (lv_at hl 2 rfl) ?_
  refine lv_ishr hx hb dX4_isOpen_7 ?_
  refine lv_topi (fun y7 _ => ?_)
  refine lv_iconst (v := 1) hx hb dX4_isOpen_8 (by decide) ?_
  refine lv_iand hx hb dX4_isOpen_9 ?_
  refine zi_top (a := 0) (b := 1) (zB_andr (show zB 1 1 1 from ⟨by decide, by decide⟩) (by decide)) (fun y9 by9 => ?_)
  refine lv_iconst (v := 1) hx hb dX4_isOpen_10 (by decide) ?_
  refine lv_icmp_ne (tgt := 18) hx hb dX4_isOpen_11 (by decide) (fun c11 => ?_) (fun c11 => ?_)
  · have bn11t_y9 : zB y9 0 0 := zB_neH c11 by9 (show zB 1 1 1 from ⟨by decide, by decide⟩) (by decide)
    refine lv_iconst (v := 0) hx hb dX4_isOpen_18 (by decide) ?_
    exact W.zret (v := 0) (ty := .boolean) hx hb hr (by decide) (fun t ht hW => ⟨0, rfl, (zB_w (show zB 0 0 0 from ⟨by decide, by decide⟩) (by decide) (by decide)), ht⟩) (fun q hq => by cases hq) dX4_isOpen_19
  · have be11f_y9 : zB y9 1 1 := zB_eq c11 by9 (show zB 1 1 1 from ⟨by decide, by decide⟩) (by decide) (by decide)
    refine lv_iconst (v := 1) hx hb dX4_isOpen_14 (by decide) ?_
    refine lv_goto (tgt := 19) hx hb dX4_isOpen_15 (by decide) ?_
    exact W.zret (v := 1) (ty := .boolean) hx hb hr (by decide) (fun t ht hW => ⟨1, rfl, (zB_w (show zB 1 1 1 from ⟨by decide, by decide⟩) (by decide) (by decide)), ht⟩) (fun q hq => by cases hq) dX4_isOpen_19
set_option maxHeartbeats 4000000 in
set_option maxRecDepth 100000 in
theorem c_X4_sumAround (l : Launch) (D : va_G) (cI : ClassId) (cB : ClassId) (cL : ClassId) (cZ : ClassId) (cG : ClassId) (NI : Nat) (co : Nat) (co_f : Nat → Int32) (x1 : Int32) (x2 : Int32) (FL : Nat) (NI_count : Int32) (NI_time : Int32) (aNI : Nat → Nat) (PL : Nat) (aFL : Nat → Nat) (FL_parting : Int32) (FL_next : Nat → Int32) (PL_rooms : Int32) (aPL : Nat → Nat) (PL_doors : Int32) (PL_things : Int32) (FO : Nat) (PL_draw : Int32) (PL_drawTold : Int32) (b_x1 : zB x1 0 7) (b_x2 : zB x2 0 7) (b_NI_count : zB NI_count 0 30) (b_NI_time : zB NI_time 0 100000) (b_PL_rooms : zB PL_rooms 0 8) (b_PL_doors : zB PL_doors 0 12) (b_PL_things : zB PL_things 0 6) : Met l yX4_sumAround wsX4_sumAround ({ frames := 0, cells := 0, slots := 0, locals := 0 }) (xr D [(cI, .int), (cB, .byte), (cL, .long), (cZ, .boolean), (cG, .array .int)] [(co, .inl (cI, 64, .inl co_f)), (NI, .inr (4, oX4 FL aNI NI_count NI_time)), (FL, .inr (0, oX0 PL aFL FL_parting)), ((aFL 1), .inl (cI, 8, .inl FL_next)), (PL, .inr (5, oX5 FO aPL PL_rooms PL_doors PL_things PL_draw PL_drawTold))] [.ref NI, .ref co, .int x1, .int x2]) (vp_Si (fun r => True)) 0 0 (fun _ => False) := by
  refine Met.ofW (cc := cX4_sumAround) (maxL := 7) (ret := (some .int)) (by decide) rfl ?_
  intro p e s m args below meth c s₁ B hml hv
  obtain ⟨rfl, hP, hK⟩ := hv
  have hx := B.exec
  have hb := B.bytes
  have hr := B.returns
  have hts := atoms_spec (ws := wsX4_sumAround) B.pre
  have hown : s.vm.findClass RX4 = some m.cls := findClass_of_methodNamed B.named
  have hlocks := B.notSynchronized
  clear B
  have hl := lv_entry ([.ref NI, .ref co, .int x1, .int x2]) (n := 7) (Nat.le_of_ble_eq_true rfl)
  rw [lg_entry_eq]
  generalize (lg_sl ([.ref NI, .ref co, .int x1, .int x2]) ++ List.replicate (7 - (lg_sl ([.ref NI, .ref co, .int x1, .int x2])).length) Slot.unset).toArray = ls at hl ⊢
  replace hl : lv_has ls 7 [(0, .ref NI), (1, .ref co), (2, .int x1), (3, .int x2)] := hl
  refine zz_abs (R := ({ frames := 0, cells := 0, slots := 0, locals := 0 } : Room)) (fun Q up => ?_)
  refine lv_aload_n hx hb dX4_sumAround_0 rfl (lv_at hl 0 rfl) ?_
  refine va_get (D := D) (ci := 4) (v := .ref FL) (C := RX4) (T := TX4) (N := 10) hx hb hts iw_X4_sumAround_X4 hown hK hP 1 rfl rfl 0 (by decide) (hts (.fieldLink RX4 33 "SoldHouse$Night" "floor" "LSoldHouse$Floor;") (List.mem_of_getElem? (i := 1) rfl)) (fun _ h9 => h9) rfl dX4_sumAround_1 ?_
  refine va_get (D := D) (ci := 0) (v := .ref (aFL 1)) (C := RX0) (T := TX0) (N := 5) hx hb hts iw_X4_sumAround_X0 hown hK hP 2 rfl rfl 1 (by decide) (hts (.fieldLink RX4 92 "SoldHouse$Floor" "next" "[I") (List.mem_of_getElem? (i := 2) rfl)) (fun _ h9 => h9) rfl dX4_sumAround_4 ?_
  refine lv_iload_n hx hb dX4_sumAround_7 rfl (lv_at hl 3 rfl) ?_
  refine va_iald hx hb hK hP 3 0 rfl rfl (zB_in b_x2 (by decide) (by decide)) dX4_sumAround_8 ?_
  refine lv_topi (fun y8 _ => ?_)
  refine lv_iconst (v := 1) hx hb dX4_sumAround_9 (by decide) ?_
  refine lv_iload_n hx hb dX4_sumAround_10 rfl (lv_at hl 3 rfl) ?_
  refine lv_ishl hx hb dX4_sumAround_11 ?_
  refine zi_top (a := 1) (b := 128) (zB_shl1 b_x2 (by decide) (by decide) (by decide) (by decide)) (fun y11 by11 => ?_)
  refine lv_ior hx hb dX4_sumAround_12 ?_
  refine lv_topi (fun y12 _ => ?_)
  refine lv_istore (lv' := [(4, .int y12), (0, .ref NI), (1, .ref co), (2, .int x1), (3, .int x2)]) hx hb dX4_sumAround_13 hl (by decide) rfl (fun ls hl => ?_)
  refine lv_iconst (v := 0) hx hb dX4_sumAround_15 (by decide) ?_
  refine lv_istore (lv' := [(5, .int 0), (4, .int y12), (0, .ref NI), (1, .ref co), (2, .int x1), (3, .int x2)]) hx hb dX4_sumAround_16 hl (by decide) rfl (fun ls hl => ?_)
  refine lv_iconst (v := 0) hx hb dX4_sumAround_18 (by decide) ?_
  have j21 : ∀ (n21 : Nat) (ls : Array Slot) (v21_6 : Int32) (v21_5 : Int32), zB v21_6 0 8 → (8 + 1 - v21_6.toInt) ≤ (n21 : Int) → lv_has ls 7 [(6, .int v21_6), (5, .int v21_5), (4, .int y12), (0, .ref NI), (1, .ref co), (2, .int x1), (3, .int x2)] → W p l e ({ frames := 0, cells := 0, slots := 0, locals := 0 } : Room) s m ([.ref NI, .ref co, .int x1, .int x2] : List Value).toArray below meth c s.heap [] 0 0 Q (F0 m 21 ls []) := by
    intro n21
    induction n21 with
    | zero => intro ls v21_6 v21_5 bv21_6_k21 hm21 hl; exact zM_u0 bv21_6_k21 hm21
    | succ n21 ih21 =>
      intro ls v21_6 v21_5 bv21_6_k21 hm21 hl
      refine lv_iload hx hb dX4_sumAround_21 (lv_at hl 0 rfl) ?_
      refine lv_aload_n hx hb dX4_sumAround_23 rfl (lv_at hl 3 rfl) ?_
      refine va_get (D := D) (ci := 4) (v := .ref FL) (C := RX4) (T := TX4) (N := 10) hx hb hts iw_X4_sumAround_X4 hown hK hP 1 rfl rfl 0 (by decide) (hts (.fieldLink RX4 33 "SoldHouse$Night" "floor" "LSoldHouse$Floor;") (List.mem_of_getElem? (i := 1) rfl)) (fun _ h9 => h9) rfl dX4_sumAround_24 ?_
      refine va_get (D := D) (ci := 0) (v := .ref PL) (C := RX0) (T := TX0) (N := 5) hx hb hts iw_X4_sumAround_X0 hown hK hP 2 rfl rfl 0 (by decide) (hts (.fieldLink RX4 49 "SoldHouse$Floor" "plan" "LSoldHouse$Plan;") (List.mem_of_getElem? (i := 3) rfl)) (fun _ h9 => h9) rfl dX4_sumAround_27 ?_
      refine va_get (D := D) (ci := 5) (v := .int PL_rooms) (C := RX5) (T := TX5) (N := 16) hx hb hts iw_X4_sumAround_X5 hown hK hP 4 rfl rfl 0 (by decide) (hts (.fieldLink RX4 55 "SoldHouse$Plan" "rooms" "I") (List.mem_of_getElem? (i := 4) rfl)) (fun _ h9 => h9) rfl dX4_sumAround_30 ?_
      refine lv_icmp_ge (tgt := 67) hx hb dX4_sumAround_33 (by decide) (fun c33 => ?_) (fun c33 => ?_)
      · refine lv_iload hx hb dX4_sumAround_67 (lv_at hl 1 rfl) ?_
        exact up _ _ _ (W.iret (v := v21_5) hx hb hr (fun t ht hW => ⟨v21_5, rfl, trivial, ht⟩) (fun q hq => by cases hq) dX4_sumAround_69)
      · have bx33f_v21_6 : zB v21_6 0 7 := zB_ltu (zf c33) bv21_6_k21 b_PL_rooms (by decide)
        have by33f_PL_rooms : zB PL_rooms 1 8 := zB_ltv (zf c33) bx33f_v21_6 b_PL_rooms (by decide)
        refine lv_iload hx hb dX4_sumAround_36 (lv_at hl 2 rfl) ?_
        refine lv_iload hx hb dX4_sumAround_38 (lv_at hl 0 rfl) ?_
        refine lv_ishr hx hb dX4_sumAround_40 ?_
        refine lv_topi (fun y40 _ => ?_)
        refine lv_iconst (v := 1) hx hb dX4_sumAround_41 (by decide) ?_
        refine lv_iand hx hb dX4_sumAround_42 ?_
        refine zi_top (a := 0) (b := 1) (zB_andr (show zB 1 1 1 from ⟨by decide, by decide⟩) (by decide)) (fun y42 by42 => ?_)
        refine lv_iconst (v := 1) hx hb dX4_sumAround_43 (by decide) ?_
        have j61 : ∀ (ls : Array Slot) (v61_5 : Int32), lv_has ls 7 [(6, .int v21_6), (5, .int v61_5), (4, .int y12), (0, .ref NI), (1, .ref co), (2, .int x1), (3, .int x2)] → W p l e ({ frames := 0, cells := 0, slots := 0, locals := 0 } : Room) s m ([.ref NI, .ref co, .int x1, .int x2] : List Value).toArray below meth c s.heap [] 0 0 Q (F0 m 61 ls []) := by
          intro ls v61_5 hl
          obtain ⟨y61, by61, ry61, ey61⟩ := zi_inc (x := v21_6) (k := 1) (a := 1) (b := 8) bx33f_v21_6 (by decide) (by decide) (by decide) (by decide) (by decide)
          refine lv_iinc (v := y61) (lv' := [(6, .int y61), (5, .int v61_5), (4, .int y12), (0, .ref NI), (1, .ref co), (2, .int x1), (3, .int x2)]) hx hb dX4_sumAround_61 hl (k := 0) rfl ey61 (by decide) rfl (fun ls hl => ?_)
          refine lv_goto (tgt := 21) hx hb dX4_sumAround_64 (by decide) ?_
          exact ih21 ls y61 v61_5 (zB_w by61 (by decide) (by decide)) (zM_us (k := 1) hm21 ry61 (by decide)) (lv_sub hl [0, 1, 2, 3, 4, 5, 6] rfl)
        refine lv_icmp_ne (tgt := 61) hx hb dX4_sumAround_44 (by decide) (fun c44 => ?_) (fun c44 => ?_)
        · have bn44t_y42 : zB y42 0 0 := zB_neH c44 by42 (show zB 1 1 1 from ⟨by decide, by decide⟩) (by decide)
          exact j61 ls v21_5 (lv_sub hl [0, 1, 2, 3, 4, 5, 6] rfl)
        · have be44f_y42 : zB y42 1 1 := zB_eq c44 by42 (show zB 1 1 1 from ⟨by decide, by decide⟩) (by decide) (by decide)
          refine lv_iload hx hb dX4_sumAround_47 (lv_at hl 1 rfl) ?_
          refine lv_aload_n hx hb dX4_sumAround_49 rfl (lv_at hl 4 rfl) ?_
          refine lv_iload_n hx hb dX4_sumAround_50 rfl (lv_at hl 5 rfl) ?_
          refine lv_bipush (v := 8) hx hb dX4_sumAround_51 (by decide) ?_
          refine lv_imul hx hb dX4_sumAround_53 ?_
          refine zi_top (a := 0) (b := 56) (zB_mul b_x1 (show zB 8 8 8 from ⟨by decide, by decide⟩) (by decide) (by decide) (by decide) (by decide) (by decide)) (fun y53 by53 => ?_)
          refine lv_iload hx hb dX4_sumAround_54 (lv_at hl 0 rfl) ?_
          refine lv_iadd hx hb dX4_sumAround_56 ?_
          refine zi_top (a := 0) (b := 63) (zB_add by53 bx33f_v21_6 (by decide) (by decide) (by decide) (by decide)) (fun y56 by56 => ?_)
          refine va_iald hx hb hK hP 0 0 rfl rfl (zB_in by56 (by decide) (by decide)) dX4_sumAround_57 ?_
          refine lv_topi (fun y57 _ => ?_)
          refine lv_iadd hx hb dX4_sumAround_58 ?_
          refine lv_topi (fun y58 _ => ?_)
          refine lv_istore (lv' := [(5, .int y58), (6, .int v21_6), (4, .int y12), (0, .ref NI), (1, .ref co), (2, .int x1), (3, .int x2)]) hx hb dX4_sumAround_59 hl (by decide) rfl (fun ls hl => ?_)
          exact j61 ls y58 (lv_sub hl [1, 0, 2, 3, 4, 5, 6] rfl)
  refine lv_istore (lv' := [(6, .int 0), (5, .int 0), (4, .int y12), (0, .ref NI), (1, .ref co), (2, .int x1), (3, .int x2)]) hx hb dX4_sumAround_19 hl (by decide) rfl (fun ls hl => ?_)
  exact j21 9 ls 0 0 (zB_w (show zB 0 0 0 from ⟨by decide, by decide⟩) (by decide) (by decide)) (zM_ui (show zB 0 0 0 from ⟨by decide, by decide⟩) (by decide)) (lv_sub hl [0, 1, 2, 3, 4, 5, 6] rfl)
set_option maxHeartbeats 4000000 in
set_option maxRecDepth 100000 in
theorem c_X4_comingTo (l : Launch) (D : va_G) (cI : ClassId) (cB : ClassId) (cL : ClassId) (cZ : ClassId) (cG : ClassId) (NI : Nat) (x0 : Int32) (x1 : Int32) (FL : Nat) (NI_count : Int32) (NI_time : Int32) (aNI : Nat → Nat) (NI_into : Nat → Int32) (PL : Nat) (aFL : Nat → Nat) (FL_parting : Int32) (FL_next : Nat → Int32) (PL_rooms : Int32) (aPL : Nat → Nat) (PL_doors : Int32) (PL_things : Int32) (FO : Nat) (PL_draw : Int32) (PL_drawTold : Int32) (b_x0 : zB x0 0 7) (b_x1 : zB x1 0 7) (b_NI_count : zB NI_count 0 30) (b_NI_time : zB NI_time 0 100000) (b_PL_rooms : zB PL_rooms 0 8) (b_PL_doors : zB PL_doors 0 12) (b_PL_things : zB PL_things 0 6) : Met l yX4_comingTo wsX4_comingTo ({ frames := 1, cells := 0, slots := 0, locals := 26 }) (xr D [(cI, .int), (cB, .byte), (cL, .long), (cZ, .boolean), (cG, .array .int)] [(NI, .inr (4, oX4 FL aNI NI_count NI_time)), ((aNI 8), .inl (cI, 64, .inl NI_into)), (FL, .inr (0, oX0 PL aFL FL_parting)), ((aFL 1), .inl (cI, 8, .inl FL_next)), (PL, .inr (5, oX5 FO aPL PL_rooms PL_doors PL_things PL_draw PL_drawTold))] [.ref NI, .int x0, .int x1]) (vp_Si (fun r => True)) 0 0 (fun _ => False) := by
  refine Met.ofW (cc := cX4_comingTo) (maxL := 3) (ret := (some .int)) (by decide) rfl ?_
  intro p e s m args below meth c s₁ B hml hv
  obtain ⟨rfl, hP, hK⟩ := hv
  have hx := B.exec
  have hb := B.bytes
  have hr := B.returns
  have hts := atoms_spec (ws := wsX4_comingTo) B.pre
  have hown : s.vm.findClass RX4 = some m.cls := findClass_of_methodNamed B.named
  have hlocks := B.notSynchronized
  clear B
  have hl := lv_entry ([.ref NI, .int x0, .int x1]) (n := 3) (Nat.le_of_ble_eq_true rfl)
  rw [lg_entry_eq]
  generalize (lg_sl ([.ref NI, .int x0, .int x1]) ++ List.replicate (3 - (lg_sl ([.ref NI, .int x0, .int x1])).length) Slot.unset).toArray = ls at hl ⊢
  replace hl : lv_has ls 3 [(0, .ref NI), (1, .int x0), (2, .int x1)] := hl
  refine lv_iload_n hx hb dX4_comingTo_0 rfl (lv_at hl 1 rfl) ?_
  refine lv_if_ne (tgt := 8) hx hb dX4_comingTo_1 (by decide) (fun c1 => ?_) (fun c1 => ?_)
  · have bn1t_x0 : zB x0 1 7 := zB_neL c1 b_x0 (show zB 0 0 0 from ⟨by decide, by decide⟩) (by decide)
    refine lv_aload_n hx hb dX4_comingTo_8 rfl (lv_at hl 0 rfl) ?_
    refine lv_aload_n hx hb dX4_comingTo_9 rfl (lv_at hl 0 rfl) ?_
    refine va_get (D := D) (ci := 4) (v := .ref (aNI 8)) (C := RX4) (T := TX4) (N := 10) hx hb hts iw_X4_comingTo_X4 hown hK hP 0 rfl rfl 8 (by decide) (hts (.fieldLink RX4 27 "SoldHouse$Night" "into" "[I") (List.mem_of_getElem? (i := 1) rfl)) (fun _ h9 => h9) rfl dX4_comingTo_10 ?_
    refine lv_iload_n hx hb dX4_comingTo_13 rfl (lv_at hl 1 rfl) ?_
    refine lv_iconst (v := 1) hx hb dX4_comingTo_14 (by decide) ?_
    refine lv_isub hx hb dX4_comingTo_15 ?_
    refine zi_top2 (P := fun y => y.toInt = x0.toInt + (-1)) (a := 0) (b := 6) (zB_sub bn1t_x0 (show zB 1 1 1 from ⟨by decide, by decide⟩) (by decide) (by decide) (by decide) (by decide)) (zR_subc bn1t_x0 (by decide) (by decide) (by decide)) (fun y15 by15 ry15 => ?_)
    refine lv_iload_n hx hb dX4_comingTo_16 rfl (lv_at hl 2 rfl) ?_
    have hPc := hP.sub (ws' := [((aNI 8), .inl (cI, 64, .inl NI_into)), (NI, .inr (4, oX4 FL aNI NI_count NI_time)), (FL, .inr (0, oX0 PL aFL FL_parting)), ((aFL 1), .inl (cI, 8, .inl FL_next)), (PL, .inr (5, oX5 FO aPL PL_rooms PL_doors PL_things PL_draw PL_drawTold))]) [1, 0, 2, 3, 4] rfl
    refine vp_callSi (va_runV (As := [.ref (aNI 8), .int y15, .int x1]) (rest := []) ⟨hx, hb, hml, hown, hts⟩ (c_X4_sumAround l D cI cB cL cZ cG NI (aNI 8) NI_into y15 x1 FL NI_count NI_time aNI PL aFL FL_parting FL_next PL_rooms aPL PL_doors PL_things FO PL_draw PL_drawTold (zB_w by15 (by decide) (by decide)) b_x1 b_NI_count b_NI_time b_PL_rooms b_PL_doors b_PL_things) (cwV 3 hts gX4_comingTo_X4_sumAround rfl rfl rfl (by decide +kernel) ⟨Nat.le_of_ble_eq_true rfl, Nat.le_of_ble_eq_true rfl⟩) ⟨xr_blind, va_recv hK hP (ci := 4) (q0 := 0) rfl rfl, fun U hU hW => xr_mk hU hW hPc hK⟩ rfl rfl hl.1 rfl (lv_room (Nat.le_of_ble_eq_true rfl)) dX4_comingTo_17 ⟨Nat.le_of_ble_eq_true rfl, Nat.le_of_ble_eq_true rfl⟩).run (fun r17 hr17 => ?_)
    clear hPc
    clear hr17
    exact W.iret (v := r17) hx hb hr (fun t ht hW => ⟨r17, rfl, trivial, ht⟩) (fun q hq => by cases hq) dX4_comingTo_20
  · have be1f_x0 : zB x0 0 0 := zB_eq c1 b_x0 (show zB 0 0 0 from ⟨by decide, by decide⟩) (by decide) (by decide)
    refine lv_iconst (v := 1) hx hb dX4_comingTo_4 (by decide) ?_
    refine lv_goto (tgt := 20) hx hb dX4_comingTo_5 (by decide) ?_
    exact W.iret (v := 1) hx hb hr (fun t ht hW => ⟨1, rfl, trivial, ht⟩) (fun q hq => by cases hq) dX4_comingTo_20
set_option maxHeartbeats 4000000 in
set_option maxRecDepth 100000 in
theorem c_X4_goingOn (l : Launch) (D : va_G) (cI : ClassId) (cB : ClassId) (cL : ClassId) (cZ : ClassId) (cG : ClassId) (NI : Nat) (x0 : Int32) (x1 : Int32) (FL : Nat) (NI_count : Int32) (NI_time : Int32) (aNI : Nat → Nat) (NI_onward : Nat → Int32) (PL : Nat) (aFL : Nat → Nat) (FL_parting : Int32) (FL_next : Nat → Int32) (PL_rooms : Int32) (aPL : Nat → Nat) (PL_doors : Int32) (PL_things : Int32) (FO : Nat) (PL_draw : Int32) (PL_drawTold : Int32) (b_x0 : zB x0 0 7) (b_x1 : zB x1 0 7) (b_NI_count : zB NI_count 0 30) (b_NI_time : zB NI_time 0 100000) (b_PL_rooms : zB PL_rooms 0 8) (b_PL_doors : zB PL_doors 0 12) (b_PL_things : zB PL_things 0 6) : Met l yX4_goingOn wsX4_goingOn ({ frames := 1, cells := 0, slots := 0, locals := 26 }) (xr D [(cI, .int), (cB, .byte), (cL, .long), (cZ, .boolean), (cG, .array .int)] [(NI, .inr (4, oX4 FL aNI NI_count NI_time)), ((aNI 9), .inl (cI, 64, .inl NI_onward)), (FL, .inr (0, oX0 PL aFL FL_parting)), ((aFL 1), .inl (cI, 8, .inl FL_next)), (PL, .inr (5, oX5 FO aPL PL_rooms PL_doors PL_things PL_draw PL_drawTold))] [.ref NI, .int x0, .int x1]) (vp_Si (fun r => True)) 0 0 (fun _ => False) := by
  refine Met.ofW (cc := cX4_goingOn) (maxL := 3) (ret := (some .int)) (by decide) rfl ?_
  intro p e s m args below meth c s₁ B hml hv
  obtain ⟨rfl, hP, hK⟩ := hv
  have hx := B.exec
  have hb := B.bytes
  have hr := B.returns
  have hts := atoms_spec (ws := wsX4_goingOn) B.pre
  have hown : s.vm.findClass RX4 = some m.cls := findClass_of_methodNamed B.named
  have hlocks := B.notSynchronized
  clear B
  have hl := lv_entry ([.ref NI, .int x0, .int x1]) (n := 3) (Nat.le_of_ble_eq_true rfl)
  rw [lg_entry_eq]
  generalize (lg_sl ([.ref NI, .int x0, .int x1]) ++ List.replicate (3 - (lg_sl ([.ref NI, .int x0, .int x1])).length) Slot.unset).toArray = ls at hl ⊢
  replace hl : lv_has ls 3 [(0, .ref NI), (1, .int x0), (2, .int x1)] := hl
  refine lv_iload_n hx hb dX4_goingOn_0 rfl (lv_at hl 1 rfl) ?_
  refine lv_bipush (v := 7) hx hb dX4_goingOn_1 (by decide) ?_
  refine lv_icmp_ne (tgt := 10) hx hb dX4_goingOn_3 (by decide) (fun c3 => ?_) (fun c3 => ?_)
  · have bn3t_x0 : zB x0 0 6 := zB_neH c3 b_x0 (show zB 7 7 7 from ⟨by decide, by decide⟩) (by decide)
    refine lv_aload_n hx hb dX4_goingOn_10 rfl (lv_at hl 0 rfl) ?_
    refine lv_aload_n hx hb dX4_goingOn_11 rfl (lv_at hl 0 rfl) ?_
    refine va_get (D := D) (ci := 4) (v := .ref (aNI 9)) (C := RX4) (T := TX4) (N := 10) hx hb hts iw_X4_goingOn_X4 hown hK hP 0 rfl rfl 9 (by decide) (hts (.fieldLink RX4 30 "SoldHouse$Night" "onward" "[I") (List.mem_of_getElem? (i := 1) rfl)) (fun _ h9 => h9) rfl dX4_goingOn_12 ?_
    refine lv_iload_n hx hb dX4_goingOn_15 rfl (lv_at hl 1 rfl) ?_
    refine lv_iconst (v := 1) hx hb dX4_goingOn_16 (by decide) ?_
    refine lv_iadd hx hb dX4_goingOn_17 ?_
    refine zi_top2 (P := fun y => y.toInt = x0.toInt + 1) (a := 1) (b := 7) (zB_add bn3t_x0 (show zB 1 1 1 from ⟨by decide, by decide⟩) (by decide) (by decide) (by decide) (by decide)) (zR_addc bn3t_x0 (by decide) (by decide) (by decide)) (fun y17 by17 ry17 => ?_)
    refine lv_iload_n hx hb dX4_goingOn_18 rfl (lv_at hl 2 rfl) ?_
    have hPc := hP.sub (ws' := [((aNI 9), .inl (cI, 64, .inl NI_onward)), (NI, .inr (4, oX4 FL aNI NI_count NI_time)), (FL, .inr (0, oX0 PL aFL FL_parting)), ((aFL 1), .inl (cI, 8, .inl FL_next)), (PL, .inr (5, oX5 FO aPL PL_rooms PL_doors PL_things PL_draw PL_drawTold))]) [1, 0, 2, 3, 4] rfl
    refine vp_callSi (va_runV (As := [.ref (aNI 9), .int y17, .int x1]) (rest := []) ⟨hx, hb, hml, hown, hts⟩ (c_X4_sumAround l D cI cB cL cZ cG NI (aNI 9) NI_onward y17 x1 FL NI_count NI_time aNI PL aFL FL_parting FL_next PL_rooms aPL PL_doors PL_things FO PL_draw PL_drawTold (zB_w by17 (by decide) (by decide)) b_x1 b_NI_count b_NI_time b_PL_rooms b_PL_doors b_PL_things) (cwV 3 hts gX4_goingOn_X4_sumAround rfl rfl rfl (by decide +kernel) ⟨Nat.le_of_ble_eq_true rfl, Nat.le_of_ble_eq_true rfl⟩) ⟨xr_blind, va_recv hK hP (ci := 4) (q0 := 0) rfl rfl, fun U hU hW => xr_mk hU hW hPc hK⟩ rfl rfl hl.1 rfl (lv_room (Nat.le_of_ble_eq_true rfl)) dX4_goingOn_19 ⟨Nat.le_of_ble_eq_true rfl, Nat.le_of_ble_eq_true rfl⟩).run (fun r19 hr19 => ?_)
    clear hPc
    clear hr19
    exact W.iret (v := r19) hx hb hr (fun t ht hW => ⟨r19, rfl, trivial, ht⟩) (fun q hq => by cases hq) dX4_goingOn_22
  · have be3f_x0 : zB x0 7 7 := zB_eq c3 b_x0 (show zB 7 7 7 from ⟨by decide, by decide⟩) (by decide) (by decide)
    refine lv_iconst (v := 1) hx hb dX4_goingOn_6 (by decide) ?_
    refine lv_goto (tgt := 22) hx hb dX4_goingOn_7 (by decide) ?_
    exact W.iret (v := 1) hx hb hr (fun t ht hW => ⟨1, rfl, trivial, ht⟩) (fun q hq => by cases hq) dX4_goingOn_22
