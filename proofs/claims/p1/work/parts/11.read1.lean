set_option maxHeartbeats 4000000 in
set_option maxRecDepth 100000 in
theorem c_creakingRooms (l : Launch) (D : va_G) (cI : ClassId) (cB : ClassId) (cL : ClassId) (cZ : ClassId) (a0 : Nat) (aP : Nat) (fx : Nat) (fr : Nat) (fe : Nat) (pz : Nat → Nat) (su : Nat) (x : Int32) : Met l yX0_creakingRooms wsX0_creakingRooms ({ frames := 0, cells := 0, slots := 0, locals := 0 }) (xr D [(cI, .int), (cB, .byte), (cL, .long), (cZ, .boolean)] [(a0, .inr (0, [.ref aP, .ref fx, .ref fr, .ref fe, .int 0])), (aP, .inr (5, PF pz su))] [.ref a0, .int x]) (vp_Si (fun r => r = 0)) 0 0 (fun _ => False) := by
  refine Met.ofW (cc := cX0_creakingRooms) (maxL := 4) (ret := (some .int)) (by decide) rfl ?_
  intro p e s m args below meth c s₁ B hml hv
  obtain ⟨rfl, hP, hK⟩ := hv
  have hx := B.exec
  have hb := B.bytes
  have hr := B.returns
  have hts := atoms_spec (ws := wsX0_creakingRooms) B.pre
  have hown : s.vm.findClass RX0 = some m.cls := findClass_of_methodNamed B.named
  have hlocks := B.notSynchronized
  have hl := lv_entry ([.ref a0, .int x]) (n := 4) (Nat.le_of_ble_eq_true rfl)
  rw [lg_entry_eq]
  generalize (lg_sl ([.ref a0, .int x]) ++ List.replicate (4 - (lg_sl ([.ref a0, .int x])).length) Slot.unset).toArray = ls at hl ⊢
  replace hl : lv_has ls 4 [(0, .ref a0), (1, .int x)] := hl
  refine lv_iconst (v := 0) hx hb dX0_creakingRooms_0 (by decide) ?_
  refine lv_istore_n (lv' := [(2, .int 0), (0, .ref a0), (1, .int x)]) hx hb dX0_creakingRooms_1 rfl hl (by decide) rfl (fun ls hl => ?_)
  refine lv_iconst (v := 0) hx hb dX0_creakingRooms_2 (by decide) ?_
  refine lv_istore_n (lv' := [(3, .int 0), (2, .int 0), (0, .ref a0), (1, .int x)]) hx hb dX0_creakingRooms_3 rfl hl (by decide) rfl (fun ls hl => ?_)
  refine lv_iload_n hx hb dX0_creakingRooms_4 rfl (lv_at hl 0 rfl) ?_
  refine lv_aload_n hx hb dX0_creakingRooms_5 rfl (lv_at hl 2 rfl) ?_
  refine va_get (D := D) (ci := 0) (v := .ref aP) (C := RX0) (T := TX0) (N := 5) hx hb hts iw_X0_creakingRooms_X0 hown hK hP 0 rfl rfl 0 (by decide) (hts (.fieldLink RX0 21 "SoldHouse$Floor" "plan" "LSoldHouse$Plan;") (List.mem_of_getElem? (i := 1) rfl)) (fun _ h9 => h9) rfl dX0_creakingRooms_6 ?_
  refine va_get (D := D) (ci := 5) (v := .int 0) (C := RX5) (T := TX5) (N := 16) hx hb hts iw_X0_creakingRooms_X5 hown hK hP 1 rfl rfl 0 (by decide) (hts (.fieldLink RX0 43 "SoldHouse$Plan" "rooms" "I") (List.mem_of_getElem? (i := 2) rfl)) (fun _ h9 => h9) rfl dX0_creakingRooms_9 ?_
  refine lv_icmp_ge (tgt := 40) hx hb dX0_creakingRooms_12 (by decide) (fun _ => ?_) (fun c_1 => absurd (by decide) c_1)
  refine lv_iload_n hx hb dX0_creakingRooms_40 rfl (lv_at hl 1 rfl) ?_
  exact W.iret (v := 0) hx hb hr (fun t ht hW => ⟨0, rfl, rfl, ht⟩) (fun q hq => by cases hq) dX0_creakingRooms_41
set_option maxHeartbeats 4000000 in
set_option maxRecDepth 100000 in
theorem c_pieces (l : Launch) (D : va_G) (cI : ClassId) (cB : ClassId) (cL : ClassId) (cZ : ClassId) (a0 : Nat) (aP : Nat) (aD : Nat) (aT : Nat) (aR : Nat) (aF : Nat) (aU : Nat) (aH : Nat) (aM : Nat) (aW : Nat) (aN : Nat) (fx : Nat) (fr : Nat) (fe : Nat) (pz : Nat → Nat) (su : Nat) : Met l yX11_pieces wsX11_pieces ({ frames := 2, cells := 0, slots := 0, locals := 43 }) (xr D [(cI, .int), (cB, .byte), (cL, .long), (cZ, .boolean)] [(a0, .inr (11, [.ref aP, .ref aD, .ref aT, .ref aR, .ref aF, .ref aU, .ref aH, .ref aM, .ref aW, .ref aN])), (aF, .inr (0, [.ref aP, .ref fx, .ref fr, .ref fe, .int 0])), (aP, .inr (5, PF pz su))] [.ref a0]) (vp_Si (fun r => r = 0)) 0 0 (fun _ => False) := by
  refine Met.ofW (cc := cX11_pieces) (maxL := 1) (ret := (some .int)) (by decide) rfl ?_
  intro p e s m args below meth c s₁ B hml hv
  obtain ⟨rfl, hP, hK⟩ := hv
  have hx := B.exec
  have hb := B.bytes
  have hr := B.returns
  have hts := atoms_spec (ws := wsX11_pieces) B.pre
  have hown : s.vm.findClass RX11 = some m.cls := findClass_of_methodNamed B.named
  have hlocks := B.notSynchronized
  have hl := lv_entry ([.ref a0]) (n := 1) (Nat.le_of_ble_eq_true rfl)
  rw [lg_entry_eq]
  generalize (lg_sl ([.ref a0]) ++ List.replicate (1 - (lg_sl ([.ref a0])).length) Slot.unset).toArray = ls at hl ⊢
  replace hl : lv_has ls 1 [(0, .ref a0)] := hl
  refine lv_aload_n hx hb dX11_pieces_0 rfl (lv_at hl 0 rfl) ?_
  refine va_get (D := D) (ci := 11) (v := .ref aF) (C := RX11) (T := TX11) (N := 10) hx hb hts iw_X11_pieces_X11 hown hK hP 0 rfl rfl 4 (by decide) (hts (.fieldLink RX11 40 "SoldHouse" "floor" "LSoldHouse$Floor;") (List.mem_of_getElem? (i := 1) rfl)) (fun _ h9 => h9) rfl dX11_pieces_1 ?_
  have hPc := hP.sub (ws' := [(aF, .inr (0, [.ref aP, .ref fx, .ref fr, .ref fe, .int 0])), (aP, .inr (5, PF pz su))]) [1, 2] rfl
  refine vp_callSi (va_runV (As := []) (rest := []) ⟨hx, hb, hml, hown, hts⟩ (c_countPieces l D cI cB cL cZ aF aP fx fr fe pz su) (cwV 0 hts gX11_pieces_X0_countPieces rfl rfl rfl (by decide +kernel) ⟨Nat.le_of_ble_eq_true rfl, Nat.le_of_ble_eq_true rfl⟩) ⟨xr_blind, va_recv hK hPc (ci := 0) (q0 := 0) rfl rfl, fun U hU hW => xr_mk hU hW hPc hK⟩ rfl rfl hl.1 rfl (lv_room (Nat.le_of_ble_eq_true rfl)) dX11_pieces_4 ⟨Nat.le_of_ble_eq_true rfl, Nat.le_of_ble_eq_true rfl⟩).run (fun r_1 hr_1 => ?_)
  clear hPc
  subst hr_1
  exact W.iret (v := 0) hx hb hr (fun t ht hW => ⟨0, rfl, rfl, ht⟩) (fun q hq => by cases hq) dX11_pieces_7
set_option maxHeartbeats 4000000 in
set_option maxRecDepth 100000 in
theorem c_parts (l : Launch) (D : va_G) (cI : ClassId) (cB : ClassId) (cL : ClassId) (cZ : ClassId) (a0 : Nat) (aP : Nat) (aD : Nat) (aT : Nat) (aR : Nat) (aF : Nat) (aU : Nat) (aH : Nat) (aM : Nat) (aW : Nat) (aN : Nat) (fx : Nat) (fr : Nat) (fe : Nat) : Met l yX11_parts wsX11_parts ({ frames := 0, cells := 0, slots := 0, locals := 0 }) (xr D [(cI, .int), (cB, .byte), (cL, .long), (cZ, .boolean)] [(a0, .inr (11, [.ref aP, .ref aD, .ref aT, .ref aR, .ref aF, .ref aU, .ref aH, .ref aM, .ref aW, .ref aN])), (aF, .inr (0, [.ref aP, .ref fx, .ref fr, .ref fe, .int 0]))] [.ref a0]) (vp_Si (fun r => r = 0)) 0 0 (fun _ => False) := by
  refine Met.ofW (cc := cX11_parts) (maxL := 1) (ret := (some .int)) (by decide) rfl ?_
  intro p e s m args below meth c s₁ B hml hv
  obtain ⟨rfl, hP, hK⟩ := hv
  have hx := B.exec
  have hb := B.bytes
  have hr := B.returns
  have hts := atoms_spec (ws := wsX11_parts) B.pre
  have hown : s.vm.findClass RX11 = some m.cls := findClass_of_methodNamed B.named
  have hlocks := B.notSynchronized
  have hl := lv_entry ([.ref a0]) (n := 1) (Nat.le_of_ble_eq_true rfl)
  rw [lg_entry_eq]
  generalize (lg_sl ([.ref a0]) ++ List.replicate (1 - (lg_sl ([.ref a0])).length) Slot.unset).toArray = ls at hl ⊢
  replace hl : lv_has ls 1 [(0, .ref a0)] := hl
  refine lv_aload_n hx hb dX11_parts_0 rfl (lv_at hl 0 rfl) ?_
  refine va_get (D := D) (ci := 11) (v := .ref aF) (C := RX11) (T := TX11) (N := 10) hx hb hts iw_X11_parts_X11 hown hK hP 0 rfl rfl 4 (by decide) (hts (.fieldLink RX11 40 "SoldHouse" "floor" "LSoldHouse$Floor;") (List.mem_of_getElem? (i := 1) rfl)) (fun _ h9 => h9) rfl dX11_parts_1 ?_
  refine va_get (D := D) (ci := 0) (v := .int 0) (C := RX0) (T := TX0) (N := 5) hx hb hts iw_X11_parts_X0 hown hK hP 1 rfl rfl 4 (by decide) (hts (.fieldLink RX11 150 "SoldHouse$Floor" "parting" "I") (List.mem_of_getElem? (i := 2) rfl)) (fun _ h9 => h9) rfl dX11_parts_4 ?_
  exact W.iret (v := 0) hx hb hr (fun t ht hW => ⟨0, rfl, rfl, ht⟩) (fun q hq => by cases hq) dX11_parts_7
set_option maxHeartbeats 4000000 in
set_option maxRecDepth 100000 in
theorem c_hunt (l : Launch) (D : va_G) (cI : ClassId) (cB : ClassId) (cL : ClassId) (cZ : ClassId) (a0 : Nat) (aP : Nat) (aD : Nat) (aT : Nat) (aR : Nat) (aF : Nat) (aU : Nat) (aH : Nat) (aM : Nat) (aW : Nat) (aN : Nat) (pz : Nat → Nat) (su : Nat) (x : Int32) : Met l yX11_hunt wsX11_hunt ({ frames := 1, cells := 0, slots := 0, locals := 21 }) (xr D [(cI, .int), (cB, .byte), (cL, .long), (cZ, .boolean)] [(a0, .inr (11, [.ref aP, .ref aD, .ref aT, .ref aR, .ref aF, .ref aU, .ref aH, .ref aM, .ref aW, .ref aN])), (aP, .inr (5, PF pz su))] [.ref a0, .int x]) (vp_Si (fun r => r = (-1))) 0 0 (fun _ => False) := by
  refine Met.ofW (cc := cX11_hunt) (maxL := 2) (ret := (some .int)) (by decide) rfl ?_
  intro p e s m args below meth c s₁ B hml hv
  obtain ⟨rfl, hP, hK⟩ := hv
  have hx := B.exec
  have hb := B.bytes
  have hr := B.returns
  have hts := atoms_spec (ws := wsX11_hunt) B.pre
  have hown : s.vm.findClass RX11 = some m.cls := findClass_of_methodNamed B.named
  have hlocks := B.notSynchronized
  have hl := lv_entry ([.ref a0, .int x]) (n := 2) (Nat.le_of_ble_eq_true rfl)
  rw [lg_entry_eq]
  generalize (lg_sl ([.ref a0, .int x]) ++ List.replicate (2 - (lg_sl ([.ref a0, .int x])).length) Slot.unset).toArray = ls at hl ⊢
  replace hl : lv_has ls 2 [(0, .ref a0), (1, .int x)] := hl
  refine lv_iload_n hx hb dX11_hunt_0 rfl (lv_at hl 1 rfl) ?_
  refine lv_if_eq (tgt := 12) hx hb dX11_hunt_1 (by decide) (fun c_1 => ?_) (fun c_1 => ?_)
  · obtain rfl : x = 0 := c_1
    refine lv_iconst (v := (-1)) hx hb dX11_hunt_12 (by decide) ?_
    exact W.iret (v := (-1)) hx hb hr (fun t ht hW => ⟨(-1), rfl, rfl, ht⟩) (fun q hq => by cases hq) dX11_hunt_13
  · refine lv_aload_n hx hb dX11_hunt_4 rfl (lv_at hl 0 rfl) ?_
    refine lv_iload_n hx hb dX11_hunt_5 rfl (lv_at hl 1 rfl) ?_
    have hPc := hP.sub (ws' := [(a0, .inr (11, [.ref aP, .ref aD, .ref aT, .ref aR, .ref aF, .ref aU, .ref aH, .ref aM, .ref aW, .ref aN])), (aP, .inr (5, PF pz su))]) [0, 1] rfl
    refine vp_callSi (va_runV (As := [.int x]) (rest := []) ⟨hx, hb, hml, hown, hts⟩ (c_areRooms l D cI cB cL cZ a0 aP aD aT aR aF aU aH aM aW aN pz su x) (cwV 1 hts gX11_hunt_X11_areRooms rfl rfl rfl (by decide +kernel) ⟨Nat.le_of_ble_eq_true rfl, Nat.le_of_ble_eq_true rfl⟩) ⟨xr_blind, va_recv hK hPc (ci := 11) (q0 := 0) rfl rfl, fun U hU hW => xr_mk hU hW hPc hK⟩ rfl rfl hl.1 rfl (lv_room (Nat.le_of_ble_eq_true rfl)) dX11_hunt_6 ⟨Nat.le_of_ble_eq_true rfl, Nat.le_of_ble_eq_true rfl⟩).run (fun r_2 hr_2 => ?_)
    clear hPc
    rcases hr_2 with ⟨rfl, hr_2_0, hr_2_1⟩ | ⟨rfl, hr_2_0⟩ | ⟨rfl, hr_2_0⟩
    · exact (c_1 (zz_pin0 hr_2_0 hr_2_1)).elim
    · refine lv_if_ne (tgt := 14) hx hb dX11_hunt_9 (by decide) (fun c_3 => absurd (by decide) c_3) (fun _ => ?_)
      refine lv_iconst (v := (-1)) hx hb dX11_hunt_12 (by decide) ?_
      exact W.iret (v := (-1)) hx hb hr (fun t ht hW => ⟨(-1), rfl, rfl, ht⟩) (fun q hq => by cases hq) dX11_hunt_13
    · refine lv_if_ne (tgt := 14) hx hb dX11_hunt_9 (by decide) (fun c_4 => absurd (by decide) c_4) (fun _ => ?_)
      refine lv_iconst (v := (-1)) hx hb dX11_hunt_12 (by decide) ?_
      exact W.iret (v := (-1)) hx hb hr (fun t ht hW => ⟨(-1), rfl, rfl, ht⟩) (fun q hq => by cases hq) dX11_hunt_13
set_option maxHeartbeats 4000000 in
set_option maxRecDepth 100000 in
theorem c_first (l : Launch) (D : va_G) (cI : ClassId) (cB : ClassId) (cL : ClassId) (cZ : ClassId) (a0 : Nat) (aP : Nat) (aD : Nat) (aT : Nat) (aR : Nat) (aF : Nat) (aU : Nat) (aH : Nat) (aM : Nat) (aW : Nat) (aN : Nat) (pz : Nat → Nat) (su : Nat) (x : Int32) : Met l yX11_first wsX11_first ({ frames := 1, cells := 0, slots := 0, locals := 21 }) (xr D [(cI, .int), (cB, .byte), (cL, .long), (cZ, .boolean)] [(a0, .inr (11, [.ref aP, .ref aD, .ref aT, .ref aR, .ref aF, .ref aU, .ref aH, .ref aM, .ref aW, .ref aN])), (aP, .inr (5, PF pz su))] [.ref a0, .int x]) (vp_Si (fun r => r = (-1))) 0 0 (fun _ => False) := by
  refine Met.ofW (cc := cX11_first) (maxL := 2) (ret := (some .int)) (by decide) rfl ?_
  intro p e s m args below meth c s₁ B hml hv
  obtain ⟨rfl, hP, hK⟩ := hv
  have hx := B.exec
  have hb := B.bytes
  have hr := B.returns
  have hts := atoms_spec (ws := wsX11_first) B.pre
  have hown : s.vm.findClass RX11 = some m.cls := findClass_of_methodNamed B.named
  have hlocks := B.notSynchronized
  have hl := lv_entry ([.ref a0, .int x]) (n := 2) (Nat.le_of_ble_eq_true rfl)
  rw [lg_entry_eq]
  generalize (lg_sl ([.ref a0, .int x]) ++ List.replicate (2 - (lg_sl ([.ref a0, .int x])).length) Slot.unset).toArray = ls at hl ⊢
  replace hl : lv_has ls 2 [(0, .ref a0), (1, .int x)] := hl
  refine lv_iload_n hx hb dX11_first_0 rfl (lv_at hl 1 rfl) ?_
  refine lv_if_eq (tgt := 12) hx hb dX11_first_1 (by decide) (fun c_1 => ?_) (fun c_1 => ?_)
  · obtain rfl : x = 0 := c_1
    refine lv_iconst (v := (-1)) hx hb dX11_first_12 (by decide) ?_
    exact W.iret (v := (-1)) hx hb hr (fun t ht hW => ⟨(-1), rfl, rfl, ht⟩) (fun q hq => by cases hq) dX11_first_13
  · refine lv_aload_n hx hb dX11_first_4 rfl (lv_at hl 0 rfl) ?_
    refine lv_iload_n hx hb dX11_first_5 rfl (lv_at hl 1 rfl) ?_
    have hPc := hP.sub (ws' := [(a0, .inr (11, [.ref aP, .ref aD, .ref aT, .ref aR, .ref aF, .ref aU, .ref aH, .ref aM, .ref aW, .ref aN])), (aP, .inr (5, PF pz su))]) [0, 1] rfl
    refine vp_callSi (va_runV (As := [.int x]) (rest := []) ⟨hx, hb, hml, hown, hts⟩ (c_areRooms l D cI cB cL cZ a0 aP aD aT aR aF aU aH aM aW aN pz su x) (cwV 1 hts gX11_first_X11_areRooms rfl rfl rfl (by decide +kernel) ⟨Nat.le_of_ble_eq_true rfl, Nat.le_of_ble_eq_true rfl⟩) ⟨xr_blind, va_recv hK hPc (ci := 11) (q0 := 0) rfl rfl, fun U hU hW => xr_mk hU hW hPc hK⟩ rfl rfl hl.1 rfl (lv_room (Nat.le_of_ble_eq_true rfl)) dX11_first_6 ⟨Nat.le_of_ble_eq_true rfl, Nat.le_of_ble_eq_true rfl⟩).run (fun r_2 hr_2 => ?_)
    clear hPc
    rcases hr_2 with ⟨rfl, hr_2_0, hr_2_1⟩ | ⟨rfl, hr_2_0⟩ | ⟨rfl, hr_2_0⟩
    · exact (c_1 (zz_pin0 hr_2_0 hr_2_1)).elim
    · refine lv_if_ne (tgt := 14) hx hb dX11_first_9 (by decide) (fun c_3 => absurd (by decide) c_3) (fun _ => ?_)
      refine lv_iconst (v := (-1)) hx hb dX11_first_12 (by decide) ?_
      exact W.iret (v := (-1)) hx hb hr (fun t ht hW => ⟨(-1), rfl, rfl, ht⟩) (fun q hq => by cases hq) dX11_first_13
    · refine lv_if_ne (tgt := 14) hx hb dX11_first_9 (by decide) (fun c_4 => absurd (by decide) c_4) (fun _ => ?_)
      refine lv_iconst (v := (-1)) hx hb dX11_first_12 (by decide) ?_
      exact W.iret (v := (-1)) hx hb hr (fun t ht hW => ⟨(-1), rfl, rfl, ht⟩) (fun q hq => by cases hq) dX11_first_13
set_option maxHeartbeats 4000000 in
set_option maxRecDepth 100000 in
theorem c_meet (l : Launch) (D : va_G) (cI : ClassId) (cB : ClassId) (cL : ClassId) (cZ : ClassId) (a0 : Nat) (aP : Nat) (aD : Nat) (aT : Nat) (aR : Nat) (aF : Nat) (aU : Nat) (aH : Nat) (aM : Nat) (aW : Nat) (aN : Nat) (pz : Nat → Nat) (su : Nat) (x : Int32) (y : Int32) (z : Int32) : Met l yX11_meet wsX11_meet ({ frames := 1, cells := 0, slots := 0, locals := 21 }) (xr D [(cI, .int), (cB, .byte), (cL, .long), (cZ, .boolean)] [(a0, .inr (11, [.ref aP, .ref aD, .ref aT, .ref aR, .ref aF, .ref aU, .ref aH, .ref aM, .ref aW, .ref aN])), (aP, .inr (5, PF pz su))] [.ref a0, .int x, .int y, .int z]) (vp_Si (fun r => r = (-1))) 0 0 (fun _ => False) := by
  refine Met.ofW (cc := cX11_meet) (maxL := 5) (ret := (some .int)) (by decide) rfl ?_
  intro p e s m args below meth c s₁ B hml hv
  obtain ⟨rfl, hP, hK⟩ := hv
  have hx := B.exec
  have hb := B.bytes
  have hr := B.returns
  have hts := atoms_spec (ws := wsX11_meet) B.pre
  have hown : s.vm.findClass RX11 = some m.cls := findClass_of_methodNamed B.named
  have hlocks := B.notSynchronized
  have hl := lv_entry ([.ref a0, .int x, .int y, .int z]) (n := 5) (Nat.le_of_ble_eq_true rfl)
  rw [lg_entry_eq]
  generalize (lg_sl ([.ref a0, .int x, .int y, .int z]) ++ List.replicate (5 - (lg_sl ([.ref a0, .int x, .int y, .int z])).length) Slot.unset).toArray = ls at hl ⊢
  replace hl : lv_has ls 5 [(0, .ref a0), (1, .int x), (2, .int y), (3, .int z)] := hl
  refine lv_aload_n hx hb dX11_meet_0 rfl (lv_at hl 0 rfl) ?_
  refine lv_iload_n hx hb dX11_meet_1 rfl (lv_at hl 1 rfl) ?_
  have hPc := hP.sub (ws' := [(a0, .inr (11, [.ref aP, .ref aD, .ref aT, .ref aR, .ref aF, .ref aU, .ref aH, .ref aM, .ref aW, .ref aN])), (aP, .inr (5, PF pz su))]) [0, 1] rfl
  refine vp_callSi (va_runV (As := [.int x]) (rest := []) ⟨hx, hb, hml, hown, hts⟩ (c_isRoom l D cI cB cL cZ a0 aP aD aT aR aF aU aH aM aW aN pz su x) (cwV 1 hts gX11_meet_X11_isRoom rfl rfl rfl (by decide +kernel) ⟨Nat.le_of_ble_eq_true rfl, Nat.le_of_ble_eq_true rfl⟩) ⟨xr_blind, va_recv hK hPc (ci := 11) (q0 := 0) rfl rfl, fun U hU hW => xr_mk hU hW hPc hK⟩ rfl rfl hl.1 rfl (lv_room (Nat.le_of_ble_eq_true rfl)) dX11_meet_2 ⟨Nat.le_of_ble_eq_true rfl, Nat.le_of_ble_eq_true rfl⟩).run (fun r_1 hr_1 => ?_)
  clear hPc
  subst hr_1
  refine lv_if_eq (tgt := 16) hx hb dX11_meet_5 (by decide) (fun _ => ?_) (fun c_2 => absurd (by decide) c_2)
  refine lv_iconst (v := (-1)) hx hb dX11_meet_16 (by decide) ?_
  exact W.iret (v := (-1)) hx hb hr (fun t ht hW => ⟨(-1), rfl, rfl, ht⟩) (fun q hq => by cases hq) dX11_meet_17
set_option maxHeartbeats 4000000 in
set_option maxRecDepth 100000 in
theorem c_bar (l : Launch) (D : va_G) (cI : ClassId) (cB : ClassId) (cL : ClassId) (cZ : ClassId) (a0 : Nat) (aP : Nat) (aD : Nat) (aT : Nat) (aR : Nat) (aF : Nat) (aU : Nat) (aH : Nat) (aM : Nat) (aW : Nat) (aN : Nat) (pz : Nat → Nat) (su : Nat) (x : Int32) (y : Int32) (z : Int32) : Met l yX11_bar wsX11_bar ({ frames := 1, cells := 0, slots := 0, locals := 21 }) (xr D [(cI, .int), (cB, .byte), (cL, .long), (cZ, .boolean)] [(a0, .inr (11, [.ref aP, .ref aD, .ref aT, .ref aR, .ref aF, .ref aU, .ref aH, .ref aM, .ref aW, .ref aN])), (aP, .inr (5, PF pz su))] [.ref a0, .int x, .int y, .int z]) (vp_Si (fun r => r = (-1))) 0 0 (fun _ => False) := by
  refine Met.ofW (cc := cX11_bar) (maxL := 5) (ret := (some .int)) (by decide) rfl ?_
  intro p e s m args below meth c s₁ B hml hv
  obtain ⟨rfl, hP, hK⟩ := hv
  have hx := B.exec
  have hb := B.bytes
  have hr := B.returns
  have hts := atoms_spec (ws := wsX11_bar) B.pre
  have hown : s.vm.findClass RX11 = some m.cls := findClass_of_methodNamed B.named
  have hlocks := B.notSynchronized
  have hl := lv_entry ([.ref a0, .int x, .int y, .int z]) (n := 5) (Nat.le_of_ble_eq_true rfl)
  rw [lg_entry_eq]
  generalize (lg_sl ([.ref a0, .int x, .int y, .int z]) ++ List.replicate (5 - (lg_sl ([.ref a0, .int x, .int y, .int z])).length) Slot.unset).toArray = ls at hl ⊢
  replace hl : lv_has ls 5 [(0, .ref a0), (1, .int x), (2, .int y), (3, .int z)] := hl
  refine lv_aload_n hx hb dX11_bar_0 rfl (lv_at hl 0 rfl) ?_
  refine lv_iload_n hx hb dX11_bar_1 rfl (lv_at hl 1 rfl) ?_
  have hPc := hP.sub (ws' := [(a0, .inr (11, [.ref aP, .ref aD, .ref aT, .ref aR, .ref aF, .ref aU, .ref aH, .ref aM, .ref aW, .ref aN])), (aP, .inr (5, PF pz su))]) [0, 1] rfl
  refine vp_callSi (va_runV (As := [.int x]) (rest := []) ⟨hx, hb, hml, hown, hts⟩ (c_isRoom l D cI cB cL cZ a0 aP aD aT aR aF aU aH aM aW aN pz su x) (cwV 1 hts gX11_bar_X11_isRoom rfl rfl rfl (by decide +kernel) ⟨Nat.le_of_ble_eq_true rfl, Nat.le_of_ble_eq_true rfl⟩) ⟨xr_blind, va_recv hK hPc (ci := 11) (q0 := 0) rfl rfl, fun U hU hW => xr_mk hU hW hPc hK⟩ rfl rfl hl.1 rfl (lv_room (Nat.le_of_ble_eq_true rfl)) dX11_bar_2 ⟨Nat.le_of_ble_eq_true rfl, Nat.le_of_ble_eq_true rfl⟩).run (fun r_1 hr_1 => ?_)
  clear hPc
  subst hr_1
  refine lv_if_eq (tgt := 16) hx hb dX11_bar_5 (by decide) (fun _ => ?_) (fun c_2 => absurd (by decide) c_2)
  refine lv_iconst (v := (-1)) hx hb dX11_bar_16 (by decide) ?_
  exact W.iret (v := (-1)) hx hb hr (fun t ht hW => ⟨(-1), rfl, rfl, ht⟩) (fun q hq => by cases hq) dX11_bar_17
set_option maxHeartbeats 4000000 in
set_option maxRecDepth 100000 in
theorem c_centre (l : Launch) (D : va_G) (cI : ClassId) (cB : ClassId) (cL : ClassId) (cZ : ClassId) (a0 : Nat) (aP : Nat) (aD : Nat) (aT : Nat) (aR : Nat) (aF : Nat) (aU : Nat) (aH : Nat) (aM : Nat) (aW : Nat) (aN : Nat) (fx : Nat) (fr : Nat) (fe : Nat) (pz : Nat → Nat) (su : Nat) : Met l yX11_centre wsX11_centre ({ frames := 1, cells := 0, slots := 0, locals := 24 }) (xr D [(cI, .int), (cB, .byte), (cL, .long), (cZ, .boolean)] [(a0, .inr (11, [.ref aP, .ref aD, .ref aT, .ref aR, .ref aF, .ref aU, .ref aH, .ref aM, .ref aW, .ref aN])), (aF, .inr (0, [.ref aP, .ref fx, .ref fr, .ref fe, .int 0])), (aP, .inr (5, PF pz su))] [.ref a0]) (vp_Si (fun r => r = (-1))) 0 0 (fun _ => False) := by
  refine Met.ofW (cc := cX11_centre) (maxL := 1) (ret := (some .int)) (by decide) rfl ?_
  intro p e s m args below meth c s₁ B hml hv
  obtain ⟨rfl, hP, hK⟩ := hv
  have hx := B.exec
  have hb := B.bytes
  have hr := B.returns
  have hts := atoms_spec (ws := wsX11_centre) B.pre
  have hown : s.vm.findClass RX11 = some m.cls := findClass_of_methodNamed B.named
  have hlocks := B.notSynchronized
  have hl := lv_entry ([.ref a0]) (n := 1) (Nat.le_of_ble_eq_true rfl)
  rw [lg_entry_eq]
  generalize (lg_sl ([.ref a0]) ++ List.replicate (1 - (lg_sl ([.ref a0])).length) Slot.unset).toArray = ls at hl ⊢
  replace hl : lv_has ls 1 [(0, .ref a0)] := hl
  refine lv_aload_n hx hb dX11_centre_0 rfl (lv_at hl 0 rfl) ?_
  refine va_get (D := D) (ci := 11) (v := .ref aF) (C := RX11) (T := TX11) (N := 10) hx hb hts iw_X11_centre_X11 hown hK hP 0 rfl rfl 4 (by decide) (hts (.fieldLink RX11 40 "SoldHouse" "floor" "LSoldHouse$Floor;") (List.mem_of_getElem? (i := 1) rfl)) (fun _ h9 => h9) rfl dX11_centre_1 ?_
  have hPc := hP.sub (ws' := [(aF, .inr (0, [.ref aP, .ref fx, .ref fr, .ref fe, .int 0])), (aP, .inr (5, PF pz su))]) [1, 2] rfl
  refine vp_callSi (va_runV (As := []) (rest := []) ⟨hx, hb, hml, hown, hts⟩ (c_middleRoom l D cI cB cL cZ aF aP fx fr fe pz su) (cwV 0 hts gX11_centre_X0_middleRoom rfl rfl rfl (by decide +kernel) ⟨Nat.le_of_ble_eq_true rfl, Nat.le_of_ble_eq_true rfl⟩) ⟨xr_blind, va_recv hK hPc (ci := 0) (q0 := 0) rfl rfl, fun U hU hW => xr_mk hU hW hPc hK⟩ rfl rfl hl.1 rfl (lv_room (Nat.le_of_ble_eq_true rfl)) dX11_centre_4 ⟨Nat.le_of_ble_eq_true rfl, Nat.le_of_ble_eq_true rfl⟩).run (fun r_1 hr_1 => ?_)
  clear hPc
  subst hr_1
  exact W.iret (v := (-1)) hx hb hr (fun t ht hW => ⟨(-1), rfl, rfl, ht⟩) (fun q hq => by cases hq) dX11_centre_7
set_option maxHeartbeats 4000000 in
set_option maxRecDepth 100000 in
theorem c_nooks (l : Launch) (D : va_G) (cI : ClassId) (cB : ClassId) (cL : ClassId) (cZ : ClassId) (a0 : Nat) (aP : Nat) (aD : Nat) (aT : Nat) (aR : Nat) (aF : Nat) (aU : Nat) (aH : Nat) (aM : Nat) (aW : Nat) (aN : Nat) (pz : Nat → Nat) (su : Nat) : Met l yX11_nooks wsX11_nooks ({ frames := 0, cells := 0, slots := 0, locals := 0 }) (xr D [(cI, .int), (cB, .byte), (cL, .long), (cZ, .boolean)] [(a0, .inr (11, [.ref aP, .ref aD, .ref aT, .ref aR, .ref aF, .ref aU, .ref aH, .ref aM, .ref aW, .ref aN])), (aP, .inr (5, PF pz su))] [.ref a0]) (vp_Si (fun r => r = 0)) 0 0 (fun _ => False) := by
  refine Met.ofW (cc := cX11_nooks) (maxL := 3) (ret := (some .int)) (by decide) rfl ?_
  intro p e s m args below meth c s₁ B hml hv
  obtain ⟨rfl, hP, hK⟩ := hv
  have hx := B.exec
  have hb := B.bytes
  have hr := B.returns
  have hts := atoms_spec (ws := wsX11_nooks) B.pre
  have hown : s.vm.findClass RX11 = some m.cls := findClass_of_methodNamed B.named
  have hlocks := B.notSynchronized
  have hl := lv_entry ([.ref a0]) (n := 3) (Nat.le_of_ble_eq_true rfl)
  rw [lg_entry_eq]
  generalize (lg_sl ([.ref a0]) ++ List.replicate (3 - (lg_sl ([.ref a0])).length) Slot.unset).toArray = ls at hl ⊢
  replace hl : lv_has ls 3 [(0, .ref a0)] := hl
  refine lv_iconst (v := 0) hx hb dX11_nooks_0 (by decide) ?_
  refine lv_istore_n (lv' := [(1, .int 0), (0, .ref a0)]) hx hb dX11_nooks_1 rfl hl (by decide) rfl (fun ls hl => ?_)
  refine lv_iconst (v := 0) hx hb dX11_nooks_2 (by decide) ?_
  refine lv_istore_n (lv' := [(2, .int 0), (1, .int 0), (0, .ref a0)]) hx hb dX11_nooks_3 rfl hl (by decide) rfl (fun ls hl => ?_)
  refine lv_iload_n hx hb dX11_nooks_4 rfl (lv_at hl 0 rfl) ?_
  refine lv_aload_n hx hb dX11_nooks_5 rfl (lv_at hl 2 rfl) ?_
  refine va_get (D := D) (ci := 11) (v := .ref aP) (C := RX11) (T := TX11) (N := 10) hx hb hts iw_X11_nooks_X11 hown hK hP 0 rfl rfl 0 (by decide) (hts (.fieldLink RX11 10 "SoldHouse" "plan" "LSoldHouse$Plan;") (List.mem_of_getElem? (i := 1) rfl)) (fun _ h9 => h9) rfl dX11_nooks_6 ?_
  refine va_get (D := D) (ci := 5) (v := .int 0) (C := RX5) (T := TX5) (N := 16) hx hb hts iw_X11_nooks_X5 hown hK hP 1 rfl rfl 0 (by decide) (hts (.fieldLink RX11 101 "SoldHouse$Plan" "rooms" "I") (List.mem_of_getElem? (i := 2) rfl)) (fun _ h9 => h9) rfl dX11_nooks_9 ?_
  refine lv_icmp_ge (tgt := 43) hx hb dX11_nooks_12 (by decide) (fun _ => ?_) (fun c_1 => absurd (by decide) c_1)
  refine lv_iload_n hx hb dX11_nooks_43 rfl (lv_at hl 1 rfl) ?_
  exact W.iret (v := 0) hx hb hr (fun t ht hW => ⟨0, rfl, rfl, ht⟩) (fun q hq => by cases hq) dX11_nooks_44
set_option maxHeartbeats 4000000 in
set_option maxRecDepth 100000 in
theorem c_echo (l : Launch) (D : va_G) (cI : ClassId) (cB : ClassId) (cL : ClassId) (cZ : ClassId) (a0 : Nat) (aP : Nat) (aD : Nat) (aT : Nat) (aR : Nat) (aF : Nat) (aU : Nat) (aH : Nat) (aM : Nat) (aW : Nat) (aN : Nat) (pz : Nat → Nat) (su : Nat) (x : Int32) (y : Int32) : Met l yX11_echo wsX11_echo ({ frames := 1, cells := 0, slots := 0, locals := 21 }) (xr D [(cI, .int), (cB, .byte), (cL, .long), (cZ, .boolean)] [(a0, .inr (11, [.ref aP, .ref aD, .ref aT, .ref aR, .ref aF, .ref aU, .ref aH, .ref aM, .ref aW, .ref aN])), (aP, .inr (5, PF pz su))] [.ref a0, .int x, .int y]) (vp_Si (fun r => r = (-1))) 0 0 (fun _ => False) := by
  refine Met.ofW (cc := cX11_echo) (maxL := 6) (ret := (some .int)) (by decide) rfl ?_
  intro p e s m args below meth c s₁ B hml hv
  obtain ⟨rfl, hP, hK⟩ := hv
  have hx := B.exec
  have hb := B.bytes
  have hr := B.returns
  have hts := atoms_spec (ws := wsX11_echo) B.pre
  have hown : s.vm.findClass RX11 = some m.cls := findClass_of_methodNamed B.named
  have hlocks := B.notSynchronized
  have hl := lv_entry ([.ref a0, .int x, .int y]) (n := 6) (Nat.le_of_ble_eq_true rfl)
  rw [lg_entry_eq]
  generalize (lg_sl ([.ref a0, .int x, .int y]) ++ List.replicate (6 - (lg_sl ([.ref a0, .int x, .int y])).length) Slot.unset).toArray = ls at hl ⊢
  replace hl : lv_has ls 6 [(0, .ref a0), (1, .int x), (2, .int y)] := hl
  refine lv_aload_n hx hb dX11_echo_0 rfl (lv_at hl 0 rfl) ?_
  refine lv_iload_n hx hb dX11_echo_1 rfl (lv_at hl 1 rfl) ?_
  have hPc := hP.sub (ws' := [(a0, .inr (11, [.ref aP, .ref aD, .ref aT, .ref aR, .ref aF, .ref aU, .ref aH, .ref aM, .ref aW, .ref aN])), (aP, .inr (5, PF pz su))]) [0, 1] rfl
  refine vp_callSi (va_runV (As := [.int x]) (rest := []) ⟨hx, hb, hml, hown, hts⟩ (c_isRoom l D cI cB cL cZ a0 aP aD aT aR aF aU aH aM aW aN pz su x) (cwV 1 hts gX11_echo_X11_isRoom rfl rfl rfl (by decide +kernel) ⟨Nat.le_of_ble_eq_true rfl, Nat.le_of_ble_eq_true rfl⟩) ⟨xr_blind, va_recv hK hPc (ci := 11) (q0 := 0) rfl rfl, fun U hU hW => xr_mk hU hW hPc hK⟩ rfl rfl hl.1 rfl (lv_room (Nat.le_of_ble_eq_true rfl)) dX11_echo_2 ⟨Nat.le_of_ble_eq_true rfl, Nat.le_of_ble_eq_true rfl⟩).run (fun r_1 hr_1 => ?_)
  clear hPc
  subst hr_1
  refine lv_if_eq (tgt := 18) hx hb dX11_echo_5 (by decide) (fun _ => ?_) (fun c_2 => absurd (by decide) c_2)
  refine lv_iconst (v := (-1)) hx hb dX11_echo_18 (by decide) ?_
  exact W.iret (v := (-1)) hx hb hr (fun t ht hW => ⟨(-1), rfl, rfl, ht⟩) (fun q hq => by cases hq) dX11_echo_19
set_option maxHeartbeats 4000000 in
set_option maxRecDepth 100000 in
theorem c_mostMended (l : Launch) (D : va_G) (cI : ClassId) (cB : ClassId) (cL : ClassId) (cZ : ClassId) (a0 : Nat) (aF : Nat) (aP : Nat) (mo : Nat) (ma : Nat) (mk : Nat) (mb : Nat) (mf : Nat) (fx : Nat) (fr : Nat) (fe : Nat) (pz : Nat → Nat) (su : Nat) (x : Int32) : Met l yX3_mostMended wsX3_mostMended ({ frames := 0, cells := 0, slots := 0, locals := 0 }) (xr D [(cI, .int), (cB, .byte), (cL, .long), (cZ, .boolean)] [(a0, .inr (3, [.ref aF, .ref mo, .ref ma, .ref mk, .int 0, .int 0, .int 0, .ref mb, .ref mf])), (aF, .inr (0, [.ref aP, .ref fx, .ref fr, .ref fe, .int 0])), (aP, .inr (5, PF pz su))] [.ref a0, .int x]) (vp_Si (fun r => r = 0)) 0 0 (fun _ => False) := by
  refine Met.ofW (cc := cX3_mostMended) (maxL := 6) (ret := (some .int)) (by decide) rfl ?_
  intro p e s m args below meth c s₁ B hml hv
  obtain ⟨rfl, hP, hK⟩ := hv
  have hx := B.exec
  have hb := B.bytes
  have hr := B.returns
  have hts := atoms_spec (ws := wsX3_mostMended) B.pre
  have hown : s.vm.findClass RX3 = some m.cls := findClass_of_methodNamed B.named
  have hlocks := B.notSynchronized
  have hl := lv_entry ([.ref a0, .int x]) (n := 6) (Nat.le_of_ble_eq_true rfl)
  rw [lg_entry_eq]
  generalize (lg_sl ([.ref a0, .int x]) ++ List.replicate (6 - (lg_sl ([.ref a0, .int x])).length) Slot.unset).toArray = ls at hl ⊢
  replace hl : lv_has ls 6 [(0, .ref a0), (1, .int x)] := hl
  refine lv_iload_n hx hb dX3_mostMended_0 rfl (lv_at hl 1 rfl) ?_
  refine lv_istore_n (lv' := [(2, .int x), (0, .ref a0), (1, .int x)]) hx hb dX3_mostMended_1 rfl hl (by decide) rfl (fun ls hl => ?_)
  refine lv_iconst (v := 0) hx hb dX3_mostMended_2 (by decide) ?_
  refine lv_istore_n (lv' := [(3, .int 0), (2, .int x), (0, .ref a0), (1, .int x)]) hx hb dX3_mostMended_3 rfl hl (by decide) rfl (fun ls hl => ?_)
  refine lv_iconst (v := 0) hx hb dX3_mostMended_4 (by decide) ?_
  refine lv_istore (lv' := [(4, .int 0), (3, .int 0), (2, .int x), (0, .ref a0), (1, .int x)]) hx hb dX3_mostMended_5 hl (by decide) rfl (fun ls hl => ?_)
  refine lv_iload hx hb dX3_mostMended_7 (lv_at hl 0 rfl) ?_
  refine lv_bipush (v := 8) hx hb dX3_mostMended_9 (by decide) ?_
  refine lv_icmp_ge (tgt := 73) hx hb dX3_mostMended_11 (by decide) (fun c_1 => absurd c_1 (by decide)) (fun _ => ?_)
  refine lv_iconst (v := 0) hx hb dX3_mostMended_14 (by decide) ?_
  refine lv_istore (lv' := [(5, .int 0), (4, .int 0), (3, .int 0), (2, .int x), (0, .ref a0), (1, .int x)]) hx hb dX3_mostMended_15 hl (by decide) rfl (fun ls hl => ?_)
  refine lv_iload hx hb dX3_mostMended_17 (lv_at hl 0 rfl) ?_
  refine lv_aload_n hx hb dX3_mostMended_19 rfl (lv_at hl 4 rfl) ?_
  refine va_get (D := D) (ci := 3) (v := .ref aF) (C := RX3) (T := TX3) (N := 9) hx hb hts iw_X3_mostMended_X3 hown hK hP 0 rfl rfl 0 (by decide) (hts (.fieldLink RX3 30 "SoldHouse$Memory" "floor" "LSoldHouse$Floor;") (List.mem_of_getElem? (i := 1) rfl)) (fun _ h9 => h9) rfl dX3_mostMended_20 ?_
  refine va_get (D := D) (ci := 0) (v := .ref aP) (C := RX0) (T := TX0) (N := 5) hx hb hts iw_X3_mostMended_X0 hown hK hP 1 rfl rfl 0 (by decide) (hts (.fieldLink RX3 34 "SoldHouse$Floor" "plan" "LSoldHouse$Plan;") (List.mem_of_getElem? (i := 2) rfl)) (fun _ h9 => h9) rfl dX3_mostMended_23 ?_
  refine va_get (D := D) (ci := 5) (v := .int 0) (C := RX5) (T := TX5) (N := 16) hx hb hts iw_X3_mostMended_X5 hown hK hP 2 rfl rfl 6 (by decide) (hts (.fieldLink RX3 40 "SoldHouse$Plan" "things" "I") (List.mem_of_getElem? (i := 3) rfl)) (fun _ h9 => h9) rfl dX3_mostMended_26 ?_
  refine lv_icmp_ge (tgt := 67) hx hb dX3_mostMended_29 (by decide) (fun _ => ?_) (fun c_2 => absurd (by decide) c_2)
  refine lv_iinc (v := 1) (lv' := [(4, .int 1), (5, .int 0), (3, .int 0), (2, .int x), (0, .ref a0), (1, .int x)]) hx hb dX3_mostMended_67 hl (k := 1) rfl (by decide) (by decide) rfl (fun ls hl => ?_)
  refine lv_goto (tgt := 7) hx hb dX3_mostMended_70 (by decide) ?_
  refine lv_iload hx hb dX3_mostMended_7 (lv_at hl 0 rfl) ?_
  refine lv_bipush (v := 8) hx hb dX3_mostMended_9 (by decide) ?_
  refine lv_icmp_ge (tgt := 73) hx hb dX3_mostMended_11 (by decide) (fun c_3 => absurd c_3 (by decide)) (fun _ => ?_)
  refine lv_iconst (v := 0) hx hb dX3_mostMended_14 (by decide) ?_
  refine lv_istore (lv' := [(5, .int 0), (4, .int 1), (3, .int 0), (2, .int x), (0, .ref a0), (1, .int x)]) hx hb dX3_mostMended_15 hl (by decide) rfl (fun ls hl => ?_)
  refine lv_iload hx hb dX3_mostMended_17 (lv_at hl 0 rfl) ?_
  refine lv_aload_n hx hb dX3_mostMended_19 rfl (lv_at hl 4 rfl) ?_
  refine va_get (D := D) (ci := 3) (v := .ref aF) (C := RX3) (T := TX3) (N := 9) hx hb hts iw_X3_mostMended_X3 hown hK hP 0 rfl rfl 0 (by decide) (hts (.fieldLink RX3 30 "SoldHouse$Memory" "floor" "LSoldHouse$Floor;") (List.mem_of_getElem? (i := 1) rfl)) (fun _ h9 => h9) rfl dX3_mostMended_20 ?_
  refine va_get (D := D) (ci := 0) (v := .ref aP) (C := RX0) (T := TX0) (N := 5) hx hb hts iw_X3_mostMended_X0 hown hK hP 1 rfl rfl 0 (by decide) (hts (.fieldLink RX3 34 "SoldHouse$Floor" "plan" "LSoldHouse$Plan;") (List.mem_of_getElem? (i := 2) rfl)) (fun _ h9 => h9) rfl dX3_mostMended_23 ?_
  refine va_get (D := D) (ci := 5) (v := .int 0) (C := RX5) (T := TX5) (N := 16) hx hb hts iw_X3_mostMended_X5 hown hK hP 2 rfl rfl 6 (by decide) (hts (.fieldLink RX3 40 "SoldHouse$Plan" "things" "I") (List.mem_of_getElem? (i := 3) rfl)) (fun _ h9 => h9) rfl dX3_mostMended_26 ?_
  refine lv_icmp_ge (tgt := 67) hx hb dX3_mostMended_29 (by decide) (fun _ => ?_) (fun c_4 => absurd (by decide) c_4)
  refine lv_iinc (v := 2) (lv' := [(4, .int 2), (5, .int 0), (3, .int 0), (2, .int x), (0, .ref a0), (1, .int x)]) hx hb dX3_mostMended_67 hl (k := 1) rfl (by decide) (by decide) rfl (fun ls hl => ?_)
  refine lv_goto (tgt := 7) hx hb dX3_mostMended_70 (by decide) ?_
  refine lv_iload hx hb dX3_mostMended_7 (lv_at hl 0 rfl) ?_
  refine lv_bipush (v := 8) hx hb dX3_mostMended_9 (by decide) ?_
  refine lv_icmp_ge (tgt := 73) hx hb dX3_mostMended_11 (by decide) (fun c_5 => absurd c_5 (by decide)) (fun _ => ?_)
  refine lv_iconst (v := 0) hx hb dX3_mostMended_14 (by decide) ?_
  refine lv_istore (lv' := [(5, .int 0), (4, .int 2), (3, .int 0), (2, .int x), (0, .ref a0), (1, .int x)]) hx hb dX3_mostMended_15 hl (by decide) rfl (fun ls hl => ?_)
  refine lv_iload hx hb dX3_mostMended_17 (lv_at hl 0 rfl) ?_
  refine lv_aload_n hx hb dX3_mostMended_19 rfl (lv_at hl 4 rfl) ?_
  refine va_get (D := D) (ci := 3) (v := .ref aF) (C := RX3) (T := TX3) (N := 9) hx hb hts iw_X3_mostMended_X3 hown hK hP 0 rfl rfl 0 (by decide) (hts (.fieldLink RX3 30 "SoldHouse$Memory" "floor" "LSoldHouse$Floor;") (List.mem_of_getElem? (i := 1) rfl)) (fun _ h9 => h9) rfl dX3_mostMended_20 ?_
  refine va_get (D := D) (ci := 0) (v := .ref aP) (C := RX0) (T := TX0) (N := 5) hx hb hts iw_X3_mostMended_X0 hown hK hP 1 rfl rfl 0 (by decide) (hts (.fieldLink RX3 34 "SoldHouse$Floor" "plan" "LSoldHouse$Plan;") (List.mem_of_getElem? (i := 2) rfl)) (fun _ h9 => h9) rfl dX3_mostMended_23 ?_
  refine va_get (D := D) (ci := 5) (v := .int 0) (C := RX5) (T := TX5) (N := 16) hx hb hts iw_X3_mostMended_X5 hown hK hP 2 rfl rfl 6 (by decide) (hts (.fieldLink RX3 40 "SoldHouse$Plan" "things" "I") (List.mem_of_getElem? (i := 3) rfl)) (fun _ h9 => h9) rfl dX3_mostMended_26 ?_
  refine lv_icmp_ge (tgt := 67) hx hb dX3_mostMended_29 (by decide) (fun _ => ?_) (fun c_6 => absurd (by decide) c_6)
  refine lv_iinc (v := 3) (lv' := [(4, .int 3), (5, .int 0), (3, .int 0), (2, .int x), (0, .ref a0), (1, .int x)]) hx hb dX3_mostMended_67 hl (k := 1) rfl (by decide) (by decide) rfl (fun ls hl => ?_)
  refine lv_goto (tgt := 7) hx hb dX3_mostMended_70 (by decide) ?_
  refine lv_iload hx hb dX3_mostMended_7 (lv_at hl 0 rfl) ?_
  refine lv_bipush (v := 8) hx hb dX3_mostMended_9 (by decide) ?_
  refine lv_icmp_ge (tgt := 73) hx hb dX3_mostMended_11 (by decide) (fun c_7 => absurd c_7 (by decide)) (fun _ => ?_)
  refine lv_iconst (v := 0) hx hb dX3_mostMended_14 (by decide) ?_
  refine lv_istore (lv' := [(5, .int 0), (4, .int 3), (3, .int 0), (2, .int x), (0, .ref a0), (1, .int x)]) hx hb dX3_mostMended_15 hl (by decide) rfl (fun ls hl => ?_)
  refine lv_iload hx hb dX3_mostMended_17 (lv_at hl 0 rfl) ?_
  refine lv_aload_n hx hb dX3_mostMended_19 rfl (lv_at hl 4 rfl) ?_
  refine va_get (D := D) (ci := 3) (v := .ref aF) (C := RX3) (T := TX3) (N := 9) hx hb hts iw_X3_mostMended_X3 hown hK hP 0 rfl rfl 0 (by decide) (hts (.fieldLink RX3 30 "SoldHouse$Memory" "floor" "LSoldHouse$Floor;") (List.mem_of_getElem? (i := 1) rfl)) (fun _ h9 => h9) rfl dX3_mostMended_20 ?_
  refine va_get (D := D) (ci := 0) (v := .ref aP) (C := RX0) (T := TX0) (N := 5) hx hb hts iw_X3_mostMended_X0 hown hK hP 1 rfl rfl 0 (by decide) (hts (.fieldLink RX3 34 "SoldHouse$Floor" "plan" "LSoldHouse$Plan;") (List.mem_of_getElem? (i := 2) rfl)) (fun _ h9 => h9) rfl dX3_mostMended_23 ?_
  refine va_get (D := D) (ci := 5) (v := .int 0) (C := RX5) (T := TX5) (N := 16) hx hb hts iw_X3_mostMended_X5 hown hK hP 2 rfl rfl 6 (by decide) (hts (.fieldLink RX3 40 "SoldHouse$Plan" "things" "I") (List.mem_of_getElem? (i := 3) rfl)) (fun _ h9 => h9) rfl dX3_mostMended_26 ?_
  refine lv_icmp_ge (tgt := 67) hx hb dX3_mostMended_29 (by decide) (fun _ => ?_) (fun c_8 => absurd (by decide) c_8)
  refine lv_iinc (v := 4) (lv' := [(4, .int 4), (5, .int 0), (3, .int 0), (2, .int x), (0, .ref a0), (1, .int x)]) hx hb dX3_mostMended_67 hl (k := 1) rfl (by decide) (by decide) rfl (fun ls hl => ?_)
  refine lv_goto (tgt := 7) hx hb dX3_mostMended_70 (by decide) ?_
  refine lv_iload hx hb dX3_mostMended_7 (lv_at hl 0 rfl) ?_
  refine lv_bipush (v := 8) hx hb dX3_mostMended_9 (by decide) ?_
  refine lv_icmp_ge (tgt := 73) hx hb dX3_mostMended_11 (by decide) (fun c_9 => absurd c_9 (by decide)) (fun _ => ?_)
  refine lv_iconst (v := 0) hx hb dX3_mostMended_14 (by decide) ?_
  refine lv_istore (lv' := [(5, .int 0), (4, .int 4), (3, .int 0), (2, .int x), (0, .ref a0), (1, .int x)]) hx hb dX3_mostMended_15 hl (by decide) rfl (fun ls hl => ?_)
  refine lv_iload hx hb dX3_mostMended_17 (lv_at hl 0 rfl) ?_
  refine lv_aload_n hx hb dX3_mostMended_19 rfl (lv_at hl 4 rfl) ?_
  refine va_get (D := D) (ci := 3) (v := .ref aF) (C := RX3) (T := TX3) (N := 9) hx hb hts iw_X3_mostMended_X3 hown hK hP 0 rfl rfl 0 (by decide) (hts (.fieldLink RX3 30 "SoldHouse$Memory" "floor" "LSoldHouse$Floor;") (List.mem_of_getElem? (i := 1) rfl)) (fun _ h9 => h9) rfl dX3_mostMended_20 ?_
  refine va_get (D := D) (ci := 0) (v := .ref aP) (C := RX0) (T := TX0) (N := 5) hx hb hts iw_X3_mostMended_X0 hown hK hP 1 rfl rfl 0 (by decide) (hts (.fieldLink RX3 34 "SoldHouse$Floor" "plan" "LSoldHouse$Plan;") (List.mem_of_getElem? (i := 2) rfl)) (fun _ h9 => h9) rfl dX3_mostMended_23 ?_
  refine va_get (D := D) (ci := 5) (v := .int 0) (C := RX5) (T := TX5) (N := 16) hx hb hts iw_X3_mostMended_X5 hown hK hP 2 rfl rfl 6 (by decide) (hts (.fieldLink RX3 40 "SoldHouse$Plan" "things" "I") (List.mem_of_getElem? (i := 3) rfl)) (fun _ h9 => h9) rfl dX3_mostMended_26 ?_
  refine lv_icmp_ge (tgt := 67) hx hb dX3_mostMended_29 (by decide) (fun _ => ?_) (fun c_10 => absurd (by decide) c_10)
  refine lv_iinc (v := 5) (lv' := [(4, .int 5), (5, .int 0), (3, .int 0), (2, .int x), (0, .ref a0), (1, .int x)]) hx hb dX3_mostMended_67 hl (k := 1) rfl (by decide) (by decide) rfl (fun ls hl => ?_)
  refine lv_goto (tgt := 7) hx hb dX3_mostMended_70 (by decide) ?_
  refine lv_iload hx hb dX3_mostMended_7 (lv_at hl 0 rfl) ?_
  refine lv_bipush (v := 8) hx hb dX3_mostMended_9 (by decide) ?_
  refine lv_icmp_ge (tgt := 73) hx hb dX3_mostMended_11 (by decide) (fun c_11 => absurd c_11 (by decide)) (fun _ => ?_)
  refine lv_iconst (v := 0) hx hb dX3_mostMended_14 (by decide) ?_
  refine lv_istore (lv' := [(5, .int 0), (4, .int 5), (3, .int 0), (2, .int x), (0, .ref a0), (1, .int x)]) hx hb dX3_mostMended_15 hl (by decide) rfl (fun ls hl => ?_)
  refine lv_iload hx hb dX3_mostMended_17 (lv_at hl 0 rfl) ?_
  refine lv_aload_n hx hb dX3_mostMended_19 rfl (lv_at hl 4 rfl) ?_
  refine va_get (D := D) (ci := 3) (v := .ref aF) (C := RX3) (T := TX3) (N := 9) hx hb hts iw_X3_mostMended_X3 hown hK hP 0 rfl rfl 0 (by decide) (hts (.fieldLink RX3 30 "SoldHouse$Memory" "floor" "LSoldHouse$Floor;") (List.mem_of_getElem? (i := 1) rfl)) (fun _ h9 => h9) rfl dX3_mostMended_20 ?_
  refine va_get (D := D) (ci := 0) (v := .ref aP) (C := RX0) (T := TX0) (N := 5) hx hb hts iw_X3_mostMended_X0 hown hK hP 1 rfl rfl 0 (by decide) (hts (.fieldLink RX3 34 "SoldHouse$Floor" "plan" "LSoldHouse$Plan;") (List.mem_of_getElem? (i := 2) rfl)) (fun _ h9 => h9) rfl dX3_mostMended_23 ?_
  refine va_get (D := D) (ci := 5) (v := .int 0) (C := RX5) (T := TX5) (N := 16) hx hb hts iw_X3_mostMended_X5 hown hK hP 2 rfl rfl 6 (by decide) (hts (.fieldLink RX3 40 "SoldHouse$Plan" "things" "I") (List.mem_of_getElem? (i := 3) rfl)) (fun _ h9 => h9) rfl dX3_mostMended_26 ?_
  refine lv_icmp_ge (tgt := 67) hx hb dX3_mostMended_29 (by decide) (fun _ => ?_) (fun c_12 => absurd (by decide) c_12)
  refine lv_iinc (v := 6) (lv' := [(4, .int 6), (5, .int 0), (3, .int 0), (2, .int x), (0, .ref a0), (1, .int x)]) hx hb dX3_mostMended_67 hl (k := 1) rfl (by decide) (by decide) rfl (fun ls hl => ?_)
  refine lv_goto (tgt := 7) hx hb dX3_mostMended_70 (by decide) ?_
  refine lv_iload hx hb dX3_mostMended_7 (lv_at hl 0 rfl) ?_
  refine lv_bipush (v := 8) hx hb dX3_mostMended_9 (by decide) ?_
  refine lv_icmp_ge (tgt := 73) hx hb dX3_mostMended_11 (by decide) (fun c_13 => absurd c_13 (by decide)) (fun _ => ?_)
  refine lv_iconst (v := 0) hx hb dX3_mostMended_14 (by decide) ?_
  refine lv_istore (lv' := [(5, .int 0), (4, .int 6), (3, .int 0), (2, .int x), (0, .ref a0), (1, .int x)]) hx hb dX3_mostMended_15 hl (by decide) rfl (fun ls hl => ?_)
  refine lv_iload hx hb dX3_mostMended_17 (lv_at hl 0 rfl) ?_
  refine lv_aload_n hx hb dX3_mostMended_19 rfl (lv_at hl 4 rfl) ?_
  refine va_get (D := D) (ci := 3) (v := .ref aF) (C := RX3) (T := TX3) (N := 9) hx hb hts iw_X3_mostMended_X3 hown hK hP 0 rfl rfl 0 (by decide) (hts (.fieldLink RX3 30 "SoldHouse$Memory" "floor" "LSoldHouse$Floor;") (List.mem_of_getElem? (i := 1) rfl)) (fun _ h9 => h9) rfl dX3_mostMended_20 ?_
  refine va_get (D := D) (ci := 0) (v := .ref aP) (C := RX0) (T := TX0) (N := 5) hx hb hts iw_X3_mostMended_X0 hown hK hP 1 rfl rfl 0 (by decide) (hts (.fieldLink RX3 34 "SoldHouse$Floor" "plan" "LSoldHouse$Plan;") (List.mem_of_getElem? (i := 2) rfl)) (fun _ h9 => h9) rfl dX3_mostMended_23 ?_
  refine va_get (D := D) (ci := 5) (v := .int 0) (C := RX5) (T := TX5) (N := 16) hx hb hts iw_X3_mostMended_X5 hown hK hP 2 rfl rfl 6 (by decide) (hts (.fieldLink RX3 40 "SoldHouse$Plan" "things" "I") (List.mem_of_getElem? (i := 3) rfl)) (fun _ h9 => h9) rfl dX3_mostMended_26 ?_
  refine lv_icmp_ge (tgt := 67) hx hb dX3_mostMended_29 (by decide) (fun _ => ?_) (fun c_14 => absurd (by decide) c_14)
  refine lv_iinc (v := 7) (lv' := [(4, .int 7), (5, .int 0), (3, .int 0), (2, .int x), (0, .ref a0), (1, .int x)]) hx hb dX3_mostMended_67 hl (k := 1) rfl (by decide) (by decide) rfl (fun ls hl => ?_)
  refine lv_goto (tgt := 7) hx hb dX3_mostMended_70 (by decide) ?_
  refine lv_iload hx hb dX3_mostMended_7 (lv_at hl 0 rfl) ?_
  refine lv_bipush (v := 8) hx hb dX3_mostMended_9 (by decide) ?_
  refine lv_icmp_ge (tgt := 73) hx hb dX3_mostMended_11 (by decide) (fun c_15 => absurd c_15 (by decide)) (fun _ => ?_)
  refine lv_iconst (v := 0) hx hb dX3_mostMended_14 (by decide) ?_
  refine lv_istore (lv' := [(5, .int 0), (4, .int 7), (3, .int 0), (2, .int x), (0, .ref a0), (1, .int x)]) hx hb dX3_mostMended_15 hl (by decide) rfl (fun ls hl => ?_)
  refine lv_iload hx hb dX3_mostMended_17 (lv_at hl 0 rfl) ?_
  refine lv_aload_n hx hb dX3_mostMended_19 rfl (lv_at hl 4 rfl) ?_
  refine va_get (D := D) (ci := 3) (v := .ref aF) (C := RX3) (T := TX3) (N := 9) hx hb hts iw_X3_mostMended_X3 hown hK hP 0 rfl rfl 0 (by decide) (hts (.fieldLink RX3 30 "SoldHouse$Memory" "floor" "LSoldHouse$Floor;") (List.mem_of_getElem? (i := 1) rfl)) (fun _ h9 => h9) rfl dX3_mostMended_20 ?_
  refine va_get (D := D) (ci := 0) (v := .ref aP) (C := RX0) (T := TX0) (N := 5) hx hb hts iw_X3_mostMended_X0 hown hK hP 1 rfl rfl 0 (by decide) (hts (.fieldLink RX3 34 "SoldHouse$Floor" "plan" "LSoldHouse$Plan;") (List.mem_of_getElem? (i := 2) rfl)) (fun _ h9 => h9) rfl dX3_mostMended_23 ?_
  refine va_get (D := D) (ci := 5) (v := .int 0) (C := RX5) (T := TX5) (N := 16) hx hb hts iw_X3_mostMended_X5 hown hK hP 2 rfl rfl 6 (by decide) (hts (.fieldLink RX3 40 "SoldHouse$Plan" "things" "I") (List.mem_of_getElem? (i := 3) rfl)) (fun _ h9 => h9) rfl dX3_mostMended_26 ?_
  refine lv_icmp_ge (tgt := 67) hx hb dX3_mostMended_29 (by decide) (fun _ => ?_) (fun c_16 => absurd (by decide) c_16)
  refine lv_iinc (v := 8) (lv' := [(4, .int 8), (5, .int 0), (3, .int 0), (2, .int x), (0, .ref a0), (1, .int x)]) hx hb dX3_mostMended_67 hl (k := 1) rfl (by decide) (by decide) rfl (fun ls hl => ?_)
  refine lv_goto (tgt := 7) hx hb dX3_mostMended_70 (by decide) ?_
  refine lv_iload hx hb dX3_mostMended_7 (lv_at hl 0 rfl) ?_
  refine lv_bipush (v := 8) hx hb dX3_mostMended_9 (by decide) ?_
  refine lv_icmp_ge (tgt := 73) hx hb dX3_mostMended_11 (by decide) (fun _ => ?_) (fun c_17 => absurd (by decide) c_17)
  refine lv_iload_n hx hb dX3_mostMended_73 rfl (lv_at hl 2 rfl) ?_
  exact W.iret (v := 0) hx hb hr (fun t ht hW => ⟨0, rfl, rfl, ht⟩) (fun q hq => by cases hq) dX3_mostMended_74
set_option maxHeartbeats 4000000 in
set_option maxRecDepth 100000 in
theorem c_mend (l : Launch) (D : va_G) (cI : ClassId) (cB : ClassId) (cL : ClassId) (cZ : ClassId) (a0 : Nat) (aP : Nat) (aD : Nat) (aT : Nat) (aR : Nat) (aF : Nat) (aU : Nat) (aH : Nat) (aM : Nat) (aW : Nat) (aN : Nat) (mo : Nat) (ma : Nat) (mk : Nat) (mb : Nat) (mf : Nat) (fx : Nat) (fr : Nat) (fe : Nat) (pz : Nat → Nat) (su : Nat) (x : Int32) : Met l yX11_mend wsX11_mend ({ frames := 1, cells := 0, slots := 0, locals := 25 }) (xr D [(cI, .int), (cB, .byte), (cL, .long), (cZ, .boolean)] [(a0, .inr (11, [.ref aP, .ref aD, .ref aT, .ref aR, .ref aF, .ref aU, .ref aH, .ref aM, .ref aW, .ref aN])), (aM, .inr (3, [.ref aF, .ref mo, .ref ma, .ref mk, .int 0, .int 0, .int 0, .ref mb, .ref mf])), (aF, .inr (0, [.ref aP, .ref fx, .ref fr, .ref fe, .int 0])), (aP, .inr (5, PF pz su))] [.ref a0, .int x]) (vp_Si (fun r => r = sp_rng 99 x)) 0 0 (fun _ => False) := by
  refine Met.ofW (cc := cX11_mend) (maxL := 2) (ret := (some .int)) (by decide) rfl ?_
  intro p e s m args below meth c s₁ B hml hv
  obtain ⟨rfl, hP, hK⟩ := hv
  have hx := B.exec
  have hb := B.bytes
  have hr := B.returns
  have hts := atoms_spec (ws := wsX11_mend) B.pre
  have hown : s.vm.findClass RX11 = some m.cls := findClass_of_methodNamed B.named
  have hlocks := B.notSynchronized
  have hl := lv_entry ([.ref a0, .int x]) (n := 2) (Nat.le_of_ble_eq_true rfl)
  rw [lg_entry_eq]
  generalize (lg_sl ([.ref a0, .int x]) ++ List.replicate (2 - (lg_sl ([.ref a0, .int x])).length) Slot.unset).toArray = ls at hl ⊢
  replace hl : lv_has ls 2 [(0, .ref a0), (1, .int x)] := hl
  refine lv_iload_n hx hb dX11_mend_0 rfl (lv_at hl 1 rfl) ?_
  refine lv_if_lt (tgt := 10) hx hb dX11_mend_1 (by decide) (fun c_1 => ?_) (fun c_1 => ?_)
  · refine lv_iconst (v := (-1)) hx hb dX11_mend_10 (by decide) ?_
    exact W.iret (v := (-1)) hx hb hr (fun t ht hW => ⟨(-1), rfl, (sp_rng_lt c_1).symm, ht⟩) (fun q hq => by cases hq) dX11_mend_11
  · refine lv_iload_n hx hb dX11_mend_4 rfl (lv_at hl 1 rfl) ?_
    refine lv_bipush (v := 99) hx hb dX11_mend_5 (by decide) ?_
    refine lv_icmp_le (tgt := 12) hx hb dX11_mend_7 (by decide) (fun c_2 => ?_) (fun c_2 => ?_)
    · refine lv_aload_n hx hb dX11_mend_12 rfl (lv_at hl 0 rfl) ?_
      refine va_get (D := D) (ci := 11) (v := .ref aM) (C := RX11) (T := TX11) (N := 10) hx hb hts iw_X11_mend_X11 hown hK hP 0 rfl rfl 7 (by decide) (hts (.fieldLink RX11 63 "SoldHouse" "memory" "LSoldHouse$Memory;") (List.mem_of_getElem? (i := 1) rfl)) (fun _ h9 => h9) rfl dX11_mend_13 ?_
      refine lv_iload_n hx hb dX11_mend_16 rfl (lv_at hl 1 rfl) ?_
      have hPc := hP.sub (ws' := [(aM, .inr (3, [.ref aF, .ref mo, .ref ma, .ref mk, .int 0, .int 0, .int 0, .ref mb, .ref mf])), (aF, .inr (0, [.ref aP, .ref fx, .ref fr, .ref fe, .int 0])), (aP, .inr (5, PF pz su))]) [1, 2, 3] rfl
      refine vp_callSi (va_runV (As := [.int x]) (rest := []) ⟨hx, hb, hml, hown, hts⟩ (c_mostMended l D cI cB cL cZ aM aF aP mo ma mk mb mf fx fr fe pz su x) (cwV 1 hts gX11_mend_X3_mostMended rfl rfl rfl (by decide +kernel) ⟨Nat.le_of_ble_eq_true rfl, Nat.le_of_ble_eq_true rfl⟩) ⟨xr_blind, va_recv hK hPc (ci := 3) (q0 := 0) rfl rfl, fun U hU hW => xr_mk hU hW hPc hK⟩ rfl rfl hl.1 rfl (lv_room (Nat.le_of_ble_eq_true rfl)) dX11_mend_17 ⟨Nat.le_of_ble_eq_true rfl, Nat.le_of_ble_eq_true rfl⟩).run (fun r_3 hr_3 => ?_)
      clear hPc
      subst hr_3
      exact W.iret (v := 0) hx hb hr (fun t ht hW => ⟨0, rfl, (sp_rng_in c_1 (Int32.not_lt.mpr c_2)).symm, ht⟩) (fun q hq => by cases hq) dX11_mend_20
    · refine lv_iconst (v := (-1)) hx hb dX11_mend_10 (by decide) ?_
      exact W.iret (v := (-1)) hx hb hr (fun t ht hW => ⟨(-1), rfl, (sp_rng_gt c_1 (Int32.not_le.mp c_2)).symm, ht⟩) (fun q hq => by cases hq) dX11_mend_11
set_option maxHeartbeats 4000000 in
set_option maxRecDepth 100000 in
theorem c_betterElsewhere (l : Launch) (D : va_G) (cI : ClassId) (cB : ClassId) (cL : ClassId) (cZ : ClassId) (a0 : Nat) (aM : Nat) (aF : Nat) (aP : Nat) (mo : Nat) (ma : Nat) (mk : Nat) (mb : Nat) (mf : Nat) (fx : Nat) (fr : Nat) (fe : Nat) (pz : Nat → Nat) (su : Nat) : Met l yX10_betterElsewhere wsX10_betterElsewhere ({ frames := 0, cells := 0, slots := 0, locals := 0 }) (xr D [(cI, .int), (cB, .byte), (cL, .long), (cZ, .boolean)] [(a0, .inr (10, [.ref aM])), (aM, .inr (3, [.ref aF, .ref mo, .ref ma, .ref mk, .int 0, .int 0, .int 0, .ref mb, .ref mf])), (aF, .inr (0, [.ref aP, .ref fx, .ref fr, .ref fe, .int 0])), (aP, .inr (5, PF pz su))] [.ref a0]) (vp_Si (fun r => r = 0)) 0 0 (fun _ => False) := by
  refine Met.ofW (cc := cX10_betterElsewhere) (maxL := 5) (ret := (some .int)) (by decide) rfl ?_
  intro p e s m args below meth c s₁ B hml hv
  obtain ⟨rfl, hP, hK⟩ := hv
  have hx := B.exec
  have hb := B.bytes
  have hr := B.returns
  have hts := atoms_spec (ws := wsX10_betterElsewhere) B.pre
  have hown : s.vm.findClass RX10 = some m.cls := findClass_of_methodNamed B.named
  have hlocks := B.notSynchronized
  have hl := lv_entry ([.ref a0]) (n := 5) (Nat.le_of_ble_eq_true rfl)
  rw [lg_entry_eq]
  generalize (lg_sl ([.ref a0]) ++ List.replicate (5 - (lg_sl ([.ref a0])).length) Slot.unset).toArray = ls at hl ⊢
  replace hl : lv_has ls 5 [(0, .ref a0)] := hl
  refine lv_aload_n hx hb dX10_betterElsewhere_0 rfl (lv_at hl 0 rfl) ?_
  refine va_get (D := D) (ci := 10) (v := .ref aM) (C := RX10) (T := TX10) (N := 1) hx hb hts iw_X10_betterElsewhere_X10 hown hK hP 0 rfl rfl 0 (by decide) (hts (.fieldLink RX10 9 "SoldHouse$Trader" "memory" "LSoldHouse$Memory;") (List.mem_of_getElem? (i := 1) rfl)) (fun _ h9 => h9) rfl dX10_betterElsewhere_1 ?_
  refine va_get (D := D) (ci := 3) (v := .ref aF) (C := RX3) (T := TX3) (N := 9) hx hb hts iw_X10_betterElsewhere_X3 hown hK hP 1 rfl rfl 0 (by decide) (hts (.fieldLink RX10 15 "SoldHouse$Memory" "floor" "LSoldHouse$Floor;") (List.mem_of_getElem? (i := 2) rfl)) (fun _ h9 => h9) rfl dX10_betterElsewhere_4 ?_
  refine va_get (D := D) (ci := 0) (v := .ref aP) (C := RX0) (T := TX0) (N := 5) hx hb hts iw_X10_betterElsewhere_X0 hown hK hP 2 rfl rfl 0 (by decide) (hts (.fieldLink RX10 21 "SoldHouse$Floor" "plan" "LSoldHouse$Plan;") (List.mem_of_getElem? (i := 3) rfl)) (fun _ h9 => h9) rfl dX10_betterElsewhere_7 ?_
  refine lv_astore_n (lv' := [(1, .ref aP), (0, .ref a0)]) hx hb dX10_betterElsewhere_10 rfl hl (by decide) rfl (fun ls hl => ?_)
  refine lv_iconst (v := 0) hx hb dX10_betterElsewhere_11 (by decide) ?_
  refine lv_istore_n (lv' := [(2, .int 0), (1, .ref aP), (0, .ref a0)]) hx hb dX10_betterElsewhere_12 rfl hl (by decide) rfl (fun ls hl => ?_)
  refine lv_iconst (v := 0) hx hb dX10_betterElsewhere_13 (by decide) ?_
  refine lv_istore_n (lv' := [(3, .int 0), (2, .int 0), (1, .ref aP), (0, .ref a0)]) hx hb dX10_betterElsewhere_14 rfl hl (by decide) rfl (fun ls hl => ?_)
  refine lv_iload_n hx hb dX10_betterElsewhere_15 rfl (lv_at hl 0 rfl) ?_
  refine lv_aload_n hx hb dX10_betterElsewhere_16 rfl (lv_at hl 2 rfl) ?_
  refine va_get (D := D) (ci := 5) (v := .int 0) (C := RX5) (T := TX5) (N := 16) hx hb hts iw_X10_betterElsewhere_X5 hown hK hP 3 rfl rfl 6 (by decide) (hts (.fieldLink RX10 27 "SoldHouse$Plan" "things" "I") (List.mem_of_getElem? (i := 4) rfl)) (fun _ h9 => h9) rfl dX10_betterElsewhere_17 ?_
  refine lv_icmp_ge (tgt := 71) hx hb dX10_betterElsewhere_20 (by decide) (fun _ => ?_) (fun c_1 => absurd (by decide) c_1)
  refine lv_iload_n hx hb dX10_betterElsewhere_71 rfl (lv_at hl 1 rfl) ?_
  exact W.iret (v := 0) hx hb hr (fun t ht hW => ⟨0, rfl, rfl, ht⟩) (fun q hq => by cases hq) dX10_betterElsewhere_72
set_option maxHeartbeats 4000000 in
set_option maxRecDepth 100000 in
theorem c_regret (l : Launch) (D : va_G) (cI : ClassId) (cB : ClassId) (cL : ClassId) (cZ : ClassId) (a0 : Nat) (aP : Nat) (aD : Nat) (aT : Nat) (aR : Nat) (aF : Nat) (aU : Nat) (aH : Nat) (aM : Nat) (aW : Nat) (aN : Nat) (mo : Nat) (ma : Nat) (mk : Nat) (mb : Nat) (mf : Nat) (fx : Nat) (fr : Nat) (fe : Nat) (pz : Nat → Nat) (su : Nat) : Met l yX11_regret wsX11_regret ({ frames := 1, cells := 0, slots := 0, locals := 24 }) (xr D [(cI, .int), (cB, .byte), (cL, .long), (cZ, .boolean)] [(a0, .inr (11, [.ref aP, .ref aD, .ref aT, .ref aR, .ref aF, .ref aU, .ref aH, .ref aM, .ref aW, .ref aN])), (aW, .inr (10, [.ref aM])), (aM, .inr (3, [.ref aF, .ref mo, .ref ma, .ref mk, .int 0, .int 0, .int 0, .ref mb, .ref mf])), (aF, .inr (0, [.ref aP, .ref fx, .ref fr, .ref fe, .int 0])), (aP, .inr (5, PF pz su))] [.ref a0]) (vp_Si (fun r => r = 0)) 0 0 (fun _ => False) := by
  refine Met.ofW (cc := cX11_regret) (maxL := 1) (ret := (some .int)) (by decide) rfl ?_
  intro p e s m args below meth c s₁ B hml hv
  obtain ⟨rfl, hP, hK⟩ := hv
  have hx := B.exec
  have hb := B.bytes
  have hr := B.returns
  have hts := atoms_spec (ws := wsX11_regret) B.pre
  have hown : s.vm.findClass RX11 = some m.cls := findClass_of_methodNamed B.named
  have hlocks := B.notSynchronized
  have hl := lv_entry ([.ref a0]) (n := 1) (Nat.le_of_ble_eq_true rfl)
  rw [lg_entry_eq]
  generalize (lg_sl ([.ref a0]) ++ List.replicate (1 - (lg_sl ([.ref a0])).length) Slot.unset).toArray = ls at hl ⊢
  replace hl : lv_has ls 1 [(0, .ref a0)] := hl
  refine lv_aload_n hx hb dX11_regret_0 rfl (lv_at hl 0 rfl) ?_
  refine va_get (D := D) (ci := 11) (v := .ref aW) (C := RX11) (T := TX11) (N := 10) hx hb hts iw_X11_regret_X11 hown hK hP 0 rfl rfl 8 (by decide) (hts (.fieldLink RX11 72 "SoldHouse" "trader" "LSoldHouse$Trader;") (List.mem_of_getElem? (i := 1) rfl)) (fun _ h9 => h9) rfl dX11_regret_1 ?_
  have hPc := hP.sub (ws' := [(aW, .inr (10, [.ref aM])), (aM, .inr (3, [.ref aF, .ref mo, .ref ma, .ref mk, .int 0, .int 0, .int 0, .ref mb, .ref mf])), (aF, .inr (0, [.ref aP, .ref fx, .ref fr, .ref fe, .int 0])), (aP, .inr (5, PF pz su))]) [1, 2, 3, 4] rfl
  refine vp_callSi (va_runV (As := []) (rest := []) ⟨hx, hb, hml, hown, hts⟩ (c_betterElsewhere l D cI cB cL cZ aW aM aF aP mo ma mk mb mf fx fr fe pz su) (cwV 0 hts gX11_regret_X10_betterElsewhere rfl rfl rfl (by decide +kernel) ⟨Nat.le_of_ble_eq_true rfl, Nat.le_of_ble_eq_true rfl⟩) ⟨xr_blind, va_recv hK hPc (ci := 10) (q0 := 0) rfl rfl, fun U hU hW => xr_mk hU hW hPc hK⟩ rfl rfl hl.1 rfl (lv_room (Nat.le_of_ble_eq_true rfl)) dX11_regret_4 ⟨Nat.le_of_ble_eq_true rfl, Nat.le_of_ble_eq_true rfl⟩).run (fun r_1 hr_1 => ?_)
  clear hPc
  subst hr_1
  exact W.iret (v := 0) hx hb hr (fun t ht hW => ⟨0, rfl, rfl, ht⟩) (fun q hq => by cases hq) dX11_regret_7
set_option maxHeartbeats 4000000 in
set_option maxRecDepth 100000 in
theorem c_isFair0 (l : Launch) (D : va_G) (cI : ClassId) (cB : ClassId) (cL : ClassId) (cZ : ClassId) (a0 : Nat) (aM : Nat) (aF : Nat) (aP : Nat) (mo : Nat) (ma : Nat) (mk : Nat) (mb : Nat) (mf : Nat) (fx : Nat) (fr : Nat) (fe : Nat) (pz : Nat → Nat) (su : Nat) (x : Int32) : Met l yX10_isFair wsX10_isFair ({ frames := 0, cells := 0, slots := 0, locals := 0 }) (xr D [(cI, .int), (cB, .byte), (cL, .long), (cZ, .boolean)] [(a0, .inr (10, [.ref aM])), (aM, .inr (3, [.ref aF, .ref mo, .ref ma, .ref mk, .int 0, .int 0, .int 0, .ref mb, .ref mf])), (aF, .inr (0, [.ref aP, .ref fx, .ref fr, .ref fe, .int 0])), (aP, .inr (5, PF pz su))] [.ref a0, .int 0, .int x]) (vp_Si (fun r => r = 0)) 0 0 (fun _ => False) := by
  refine Met.ofW (cc := cX10_isFair) (maxL := 4) (ret := (some .boolean)) (by decide) rfl ?_
  intro p e s m args below meth c s₁ B hml hv
  obtain ⟨rfl, hP, hK⟩ := hv
  have hx := B.exec
  have hb := B.bytes
  have hr := B.returns
  have hts := atoms_spec (ws := wsX10_isFair) B.pre
  have hown : s.vm.findClass RX10 = some m.cls := findClass_of_methodNamed B.named
  have hlocks := B.notSynchronized
  have hl := lv_entry ([.ref a0, .int 0, .int x]) (n := 4) (Nat.le_of_ble_eq_true rfl)
  rw [lg_entry_eq]
  generalize (lg_sl ([.ref a0, .int 0, .int x]) ++ List.replicate (4 - (lg_sl ([.ref a0, .int 0, .int x])).length) Slot.unset).toArray = ls at hl ⊢
  replace hl : lv_has ls 4 [(0, .ref a0), (1, .int 0), (2, .int x)] := hl
  refine lv_aload_n hx hb dX10_isFair_0 rfl (lv_at hl 0 rfl) ?_
  refine va_get (D := D) (ci := 10) (v := .ref aM) (C := RX10) (T := TX10) (N := 1) hx hb hts iw_X10_isFair_X10 hown hK hP 0 rfl rfl 0 (by decide) (hts (.fieldLink RX10 9 "SoldHouse$Trader" "memory" "LSoldHouse$Memory;") (List.mem_of_getElem? (i := 1) rfl)) (fun _ h9 => h9) rfl dX10_isFair_1 ?_
  refine va_get (D := D) (ci := 3) (v := .ref aF) (C := RX3) (T := TX3) (N := 9) hx hb hts iw_X10_isFair_X3 hown hK hP 1 rfl rfl 0 (by decide) (hts (.fieldLink RX10 15 "SoldHouse$Memory" "floor" "LSoldHouse$Floor;") (List.mem_of_getElem? (i := 2) rfl)) (fun _ h9 => h9) rfl dX10_isFair_4 ?_
  refine va_get (D := D) (ci := 0) (v := .ref aP) (C := RX0) (T := TX0) (N := 5) hx hb hts iw_X10_isFair_X0 hown hK hP 2 rfl rfl 0 (by decide) (hts (.fieldLink RX10 21 "SoldHouse$Floor" "plan" "LSoldHouse$Plan;") (List.mem_of_getElem? (i := 3) rfl)) (fun _ h9 => h9) rfl dX10_isFair_7 ?_
  refine va_get (D := D) (ci := 5) (v := .int 0) (C := RX5) (T := TX5) (N := 16) hx hb hts iw_X10_isFair_X5 hown hK hP 3 rfl rfl 6 (by decide) (hts (.fieldLink RX10 27 "SoldHouse$Plan" "things" "I") (List.mem_of_getElem? (i := 4) rfl)) (fun _ h9 => h9) rfl dX10_isFair_10 ?_
  refine lv_istore_n (lv' := [(3, .int 0), (0, .ref a0), (1, .int 0), (2, .int x)]) hx hb dX10_isFair_13 rfl hl (by decide) rfl (fun ls hl => ?_)
  refine lv_iload_n hx hb dX10_isFair_14 rfl (lv_at hl 2 rfl) ?_
  refine lv_iload_n hx hb dX10_isFair_15 rfl (lv_at hl 0 rfl) ?_
  refine lv_icmp_ge (tgt := 40) hx hb dX10_isFair_16 (by decide) (fun _ => ?_) (fun c_1 => absurd (by decide) c_1)
  refine lv_iconst (v := 0) hx hb dX10_isFair_40 (by decide) ?_
  exact W.zret (v := 0) (ty := .boolean) hx hb hr (by decide) (fun t ht hW => ⟨0, rfl, rfl, ht⟩) (fun q hq => by cases hq) dX10_isFair_41
set_option maxHeartbeats 4000000 in
set_option maxRecDepth 100000 in
theorem c_isFair1 (l : Launch) (D : va_G) (cI : ClassId) (cB : ClassId) (cL : ClassId) (cZ : ClassId) (a0 : Nat) (aM : Nat) (aF : Nat) (aP : Nat) (mo : Nat) (ma : Nat) (mk : Nat) (mb : Nat) (mf : Nat) (fx : Nat) (fr : Nat) (fe : Nat) (pz : Nat → Nat) (su : Nat) (x : Int32) : Met l yX10_isFair wsX10_isFair ({ frames := 0, cells := 0, slots := 0, locals := 0 }) (xr D [(cI, .int), (cB, .byte), (cL, .long), (cZ, .boolean)] [(a0, .inr (10, [.ref aM])), (aM, .inr (3, [.ref aF, .ref mo, .ref ma, .ref mk, .int 0, .int 0, .int 0, .ref mb, .ref mf])), (aF, .inr (0, [.ref aP, .ref fx, .ref fr, .ref fe, .int 0])), (aP, .inr (5, PF pz su))] [.ref a0, .int 1, .int x]) (vp_Si (fun r => r = 0)) 0 0 (fun _ => False) := by
  refine Met.ofW (cc := cX10_isFair) (maxL := 4) (ret := (some .boolean)) (by decide) rfl ?_
  intro p e s m args below meth c s₁ B hml hv
  obtain ⟨rfl, hP, hK⟩ := hv
  have hx := B.exec
  have hb := B.bytes
  have hr := B.returns
  have hts := atoms_spec (ws := wsX10_isFair) B.pre
  have hown : s.vm.findClass RX10 = some m.cls := findClass_of_methodNamed B.named
  have hlocks := B.notSynchronized
  have hl := lv_entry ([.ref a0, .int 1, .int x]) (n := 4) (Nat.le_of_ble_eq_true rfl)
  rw [lg_entry_eq]
  generalize (lg_sl ([.ref a0, .int 1, .int x]) ++ List.replicate (4 - (lg_sl ([.ref a0, .int 1, .int x])).length) Slot.unset).toArray = ls at hl ⊢
  replace hl : lv_has ls 4 [(0, .ref a0), (1, .int 1), (2, .int x)] := hl
  refine lv_aload_n hx hb dX10_isFair_0 rfl (lv_at hl 0 rfl) ?_
  refine va_get (D := D) (ci := 10) (v := .ref aM) (C := RX10) (T := TX10) (N := 1) hx hb hts iw_X10_isFair_X10 hown hK hP 0 rfl rfl 0 (by decide) (hts (.fieldLink RX10 9 "SoldHouse$Trader" "memory" "LSoldHouse$Memory;") (List.mem_of_getElem? (i := 1) rfl)) (fun _ h9 => h9) rfl dX10_isFair_1 ?_
  refine va_get (D := D) (ci := 3) (v := .ref aF) (C := RX3) (T := TX3) (N := 9) hx hb hts iw_X10_isFair_X3 hown hK hP 1 rfl rfl 0 (by decide) (hts (.fieldLink RX10 15 "SoldHouse$Memory" "floor" "LSoldHouse$Floor;") (List.mem_of_getElem? (i := 2) rfl)) (fun _ h9 => h9) rfl dX10_isFair_4 ?_
  refine va_get (D := D) (ci := 0) (v := .ref aP) (C := RX0) (T := TX0) (N := 5) hx hb hts iw_X10_isFair_X0 hown hK hP 2 rfl rfl 0 (by decide) (hts (.fieldLink RX10 21 "SoldHouse$Floor" "plan" "LSoldHouse$Plan;") (List.mem_of_getElem? (i := 3) rfl)) (fun _ h9 => h9) rfl dX10_isFair_7 ?_
  refine va_get (D := D) (ci := 5) (v := .int 0) (C := RX5) (T := TX5) (N := 16) hx hb hts iw_X10_isFair_X5 hown hK hP 3 rfl rfl 6 (by decide) (hts (.fieldLink RX10 27 "SoldHouse$Plan" "things" "I") (List.mem_of_getElem? (i := 4) rfl)) (fun _ h9 => h9) rfl dX10_isFair_10 ?_
  refine lv_istore_n (lv' := [(3, .int 0), (0, .ref a0), (1, .int 1), (2, .int x)]) hx hb dX10_isFair_13 rfl hl (by decide) rfl (fun ls hl => ?_)
  refine lv_iload_n hx hb dX10_isFair_14 rfl (lv_at hl 2 rfl) ?_
  refine lv_iload_n hx hb dX10_isFair_15 rfl (lv_at hl 0 rfl) ?_
  refine lv_icmp_ge (tgt := 40) hx hb dX10_isFair_16 (by decide) (fun _ => ?_) (fun c_1 => absurd (by decide) c_1)
  refine lv_iconst (v := 0) hx hb dX10_isFair_40 (by decide) ?_
  exact W.zret (v := 0) (ty := .boolean) hx hb hr (by decide) (fun t ht hW => ⟨0, rfl, rfl, ht⟩) (fun q hq => by cases hq) dX10_isFair_41
set_option maxHeartbeats 4000000 in
set_option maxRecDepth 100000 in
theorem c_isFair2 (l : Launch) (D : va_G) (cI : ClassId) (cB : ClassId) (cL : ClassId) (cZ : ClassId) (a0 : Nat) (aM : Nat) (aF : Nat) (aP : Nat) (mo : Nat) (ma : Nat) (mk : Nat) (mb : Nat) (mf : Nat) (fx : Nat) (fr : Nat) (fe : Nat) (pz : Nat → Nat) (su : Nat) (x : Int32) : Met l yX10_isFair wsX10_isFair ({ frames := 0, cells := 0, slots := 0, locals := 0 }) (xr D [(cI, .int), (cB, .byte), (cL, .long), (cZ, .boolean)] [(a0, .inr (10, [.ref aM])), (aM, .inr (3, [.ref aF, .ref mo, .ref ma, .ref mk, .int 0, .int 0, .int 0, .ref mb, .ref mf])), (aF, .inr (0, [.ref aP, .ref fx, .ref fr, .ref fe, .int 0])), (aP, .inr (5, PF pz su))] [.ref a0, .int 2, .int x]) (vp_Si (fun r => r = 0)) 0 0 (fun _ => False) := by
  refine Met.ofW (cc := cX10_isFair) (maxL := 4) (ret := (some .boolean)) (by decide) rfl ?_
  intro p e s m args below meth c s₁ B hml hv
  obtain ⟨rfl, hP, hK⟩ := hv
  have hx := B.exec
  have hb := B.bytes
  have hr := B.returns
  have hts := atoms_spec (ws := wsX10_isFair) B.pre
  have hown : s.vm.findClass RX10 = some m.cls := findClass_of_methodNamed B.named
  have hlocks := B.notSynchronized
  have hl := lv_entry ([.ref a0, .int 2, .int x]) (n := 4) (Nat.le_of_ble_eq_true rfl)
  rw [lg_entry_eq]
  generalize (lg_sl ([.ref a0, .int 2, .int x]) ++ List.replicate (4 - (lg_sl ([.ref a0, .int 2, .int x])).length) Slot.unset).toArray = ls at hl ⊢
  replace hl : lv_has ls 4 [(0, .ref a0), (1, .int 2), (2, .int x)] := hl
  refine lv_aload_n hx hb dX10_isFair_0 rfl (lv_at hl 0 rfl) ?_
  refine va_get (D := D) (ci := 10) (v := .ref aM) (C := RX10) (T := TX10) (N := 1) hx hb hts iw_X10_isFair_X10 hown hK hP 0 rfl rfl 0 (by decide) (hts (.fieldLink RX10 9 "SoldHouse$Trader" "memory" "LSoldHouse$Memory;") (List.mem_of_getElem? (i := 1) rfl)) (fun _ h9 => h9) rfl dX10_isFair_1 ?_
  refine va_get (D := D) (ci := 3) (v := .ref aF) (C := RX3) (T := TX3) (N := 9) hx hb hts iw_X10_isFair_X3 hown hK hP 1 rfl rfl 0 (by decide) (hts (.fieldLink RX10 15 "SoldHouse$Memory" "floor" "LSoldHouse$Floor;") (List.mem_of_getElem? (i := 2) rfl)) (fun _ h9 => h9) rfl dX10_isFair_4 ?_
  refine va_get (D := D) (ci := 0) (v := .ref aP) (C := RX0) (T := TX0) (N := 5) hx hb hts iw_X10_isFair_X0 hown hK hP 2 rfl rfl 0 (by decide) (hts (.fieldLink RX10 21 "SoldHouse$Floor" "plan" "LSoldHouse$Plan;") (List.mem_of_getElem? (i := 3) rfl)) (fun _ h9 => h9) rfl dX10_isFair_7 ?_
  refine va_get (D := D) (ci := 5) (v := .int 0) (C := RX5) (T := TX5) (N := 16) hx hb hts iw_X10_isFair_X5 hown hK hP 3 rfl rfl 6 (by decide) (hts (.fieldLink RX10 27 "SoldHouse$Plan" "things" "I") (List.mem_of_getElem? (i := 4) rfl)) (fun _ h9 => h9) rfl dX10_isFair_10 ?_
  refine lv_istore_n (lv' := [(3, .int 0), (0, .ref a0), (1, .int 2), (2, .int x)]) hx hb dX10_isFair_13 rfl hl (by decide) rfl (fun ls hl => ?_)
  refine lv_iload_n hx hb dX10_isFair_14 rfl (lv_at hl 2 rfl) ?_
  refine lv_iload_n hx hb dX10_isFair_15 rfl (lv_at hl 0 rfl) ?_
  refine lv_icmp_ge (tgt := 40) hx hb dX10_isFair_16 (by decide) (fun _ => ?_) (fun c_1 => absurd (by decide) c_1)
  refine lv_iconst (v := 0) hx hb dX10_isFair_40 (by decide) ?_
  exact W.zret (v := 0) (ty := .boolean) hx hb hr (by decide) (fun t ht hW => ⟨0, rfl, rfl, ht⟩) (fun q hq => by cases hq) dX10_isFair_41
set_option maxHeartbeats 4000000 in
set_option maxRecDepth 100000 in
theorem c_isFair3 (l : Launch) (D : va_G) (cI : ClassId) (cB : ClassId) (cL : ClassId) (cZ : ClassId) (a0 : Nat) (aM : Nat) (aF : Nat) (aP : Nat) (mo : Nat) (ma : Nat) (mk : Nat) (mb : Nat) (mf : Nat) (fx : Nat) (fr : Nat) (fe : Nat) (pz : Nat → Nat) (su : Nat) (x : Int32) : Met l yX10_isFair wsX10_isFair ({ frames := 0, cells := 0, slots := 0, locals := 0 }) (xr D [(cI, .int), (cB, .byte), (cL, .long), (cZ, .boolean)] [(a0, .inr (10, [.ref aM])), (aM, .inr (3, [.ref aF, .ref mo, .ref ma, .ref mk, .int 0, .int 0, .int 0, .ref mb, .ref mf])), (aF, .inr (0, [.ref aP, .ref fx, .ref fr, .ref fe, .int 0])), (aP, .inr (5, PF pz su))] [.ref a0, .int 3, .int x]) (vp_Si (fun r => r = 0)) 0 0 (fun _ => False) := by
  refine Met.ofW (cc := cX10_isFair) (maxL := 4) (ret := (some .boolean)) (by decide) rfl ?_
  intro p e s m args below meth c s₁ B hml hv
  obtain ⟨rfl, hP, hK⟩ := hv
  have hx := B.exec
  have hb := B.bytes
  have hr := B.returns
  have hts := atoms_spec (ws := wsX10_isFair) B.pre
  have hown : s.vm.findClass RX10 = some m.cls := findClass_of_methodNamed B.named
  have hlocks := B.notSynchronized
  have hl := lv_entry ([.ref a0, .int 3, .int x]) (n := 4) (Nat.le_of_ble_eq_true rfl)
  rw [lg_entry_eq]
  generalize (lg_sl ([.ref a0, .int 3, .int x]) ++ List.replicate (4 - (lg_sl ([.ref a0, .int 3, .int x])).length) Slot.unset).toArray = ls at hl ⊢
  replace hl : lv_has ls 4 [(0, .ref a0), (1, .int 3), (2, .int x)] := hl
  refine lv_aload_n hx hb dX10_isFair_0 rfl (lv_at hl 0 rfl) ?_
  refine va_get (D := D) (ci := 10) (v := .ref aM) (C := RX10) (T := TX10) (N := 1) hx hb hts iw_X10_isFair_X10 hown hK hP 0 rfl rfl 0 (by decide) (hts (.fieldLink RX10 9 "SoldHouse$Trader" "memory" "LSoldHouse$Memory;") (List.mem_of_getElem? (i := 1) rfl)) (fun _ h9 => h9) rfl dX10_isFair_1 ?_
  refine va_get (D := D) (ci := 3) (v := .ref aF) (C := RX3) (T := TX3) (N := 9) hx hb hts iw_X10_isFair_X3 hown hK hP 1 rfl rfl 0 (by decide) (hts (.fieldLink RX10 15 "SoldHouse$Memory" "floor" "LSoldHouse$Floor;") (List.mem_of_getElem? (i := 2) rfl)) (fun _ h9 => h9) rfl dX10_isFair_4 ?_
  refine va_get (D := D) (ci := 0) (v := .ref aP) (C := RX0) (T := TX0) (N := 5) hx hb hts iw_X10_isFair_X0 hown hK hP 2 rfl rfl 0 (by decide) (hts (.fieldLink RX10 21 "SoldHouse$Floor" "plan" "LSoldHouse$Plan;") (List.mem_of_getElem? (i := 3) rfl)) (fun _ h9 => h9) rfl dX10_isFair_7 ?_
  refine va_get (D := D) (ci := 5) (v := .int 0) (C := RX5) (T := TX5) (N := 16) hx hb hts iw_X10_isFair_X5 hown hK hP 3 rfl rfl 6 (by decide) (hts (.fieldLink RX10 27 "SoldHouse$Plan" "things" "I") (List.mem_of_getElem? (i := 4) rfl)) (fun _ h9 => h9) rfl dX10_isFair_10 ?_
  refine lv_istore_n (lv' := [(3, .int 0), (0, .ref a0), (1, .int 3), (2, .int x)]) hx hb dX10_isFair_13 rfl hl (by decide) rfl (fun ls hl => ?_)
  refine lv_iload_n hx hb dX10_isFair_14 rfl (lv_at hl 2 rfl) ?_
  refine lv_iload_n hx hb dX10_isFair_15 rfl (lv_at hl 0 rfl) ?_
  refine lv_icmp_ge (tgt := 40) hx hb dX10_isFair_16 (by decide) (fun _ => ?_) (fun c_1 => absurd (by decide) c_1)
  refine lv_iconst (v := 0) hx hb dX10_isFair_40 (by decide) ?_
  exact W.zret (v := 0) (ty := .boolean) hx hb hr (by decide) (fun t ht hW => ⟨0, rfl, rfl, ht⟩) (fun q hq => by cases hq) dX10_isFair_41
set_option maxHeartbeats 4000000 in
set_option maxRecDepth 100000 in
theorem c_isFair4 (l : Launch) (D : va_G) (cI : ClassId) (cB : ClassId) (cL : ClassId) (cZ : ClassId) (a0 : Nat) (aM : Nat) (aF : Nat) (aP : Nat) (mo : Nat) (ma : Nat) (mk : Nat) (mb : Nat) (mf : Nat) (fx : Nat) (fr : Nat) (fe : Nat) (pz : Nat → Nat) (su : Nat) (x : Int32) : Met l yX10_isFair wsX10_isFair ({ frames := 0, cells := 0, slots := 0, locals := 0 }) (xr D [(cI, .int), (cB, .byte), (cL, .long), (cZ, .boolean)] [(a0, .inr (10, [.ref aM])), (aM, .inr (3, [.ref aF, .ref mo, .ref ma, .ref mk, .int 0, .int 0, .int 0, .ref mb, .ref mf])), (aF, .inr (0, [.ref aP, .ref fx, .ref fr, .ref fe, .int 0])), (aP, .inr (5, PF pz su))] [.ref a0, .int 4, .int x]) (vp_Si (fun r => r = 0)) 0 0 (fun _ => False) := by
  refine Met.ofW (cc := cX10_isFair) (maxL := 4) (ret := (some .boolean)) (by decide) rfl ?_
  intro p e s m args below meth c s₁ B hml hv
  obtain ⟨rfl, hP, hK⟩ := hv
  have hx := B.exec
  have hb := B.bytes
  have hr := B.returns
  have hts := atoms_spec (ws := wsX10_isFair) B.pre
  have hown : s.vm.findClass RX10 = some m.cls := findClass_of_methodNamed B.named
  have hlocks := B.notSynchronized
  have hl := lv_entry ([.ref a0, .int 4, .int x]) (n := 4) (Nat.le_of_ble_eq_true rfl)
  rw [lg_entry_eq]
  generalize (lg_sl ([.ref a0, .int 4, .int x]) ++ List.replicate (4 - (lg_sl ([.ref a0, .int 4, .int x])).length) Slot.unset).toArray = ls at hl ⊢
  replace hl : lv_has ls 4 [(0, .ref a0), (1, .int 4), (2, .int x)] := hl
  refine lv_aload_n hx hb dX10_isFair_0 rfl (lv_at hl 0 rfl) ?_
  refine va_get (D := D) (ci := 10) (v := .ref aM) (C := RX10) (T := TX10) (N := 1) hx hb hts iw_X10_isFair_X10 hown hK hP 0 rfl rfl 0 (by decide) (hts (.fieldLink RX10 9 "SoldHouse$Trader" "memory" "LSoldHouse$Memory;") (List.mem_of_getElem? (i := 1) rfl)) (fun _ h9 => h9) rfl dX10_isFair_1 ?_
  refine va_get (D := D) (ci := 3) (v := .ref aF) (C := RX3) (T := TX3) (N := 9) hx hb hts iw_X10_isFair_X3 hown hK hP 1 rfl rfl 0 (by decide) (hts (.fieldLink RX10 15 "SoldHouse$Memory" "floor" "LSoldHouse$Floor;") (List.mem_of_getElem? (i := 2) rfl)) (fun _ h9 => h9) rfl dX10_isFair_4 ?_
  refine va_get (D := D) (ci := 0) (v := .ref aP) (C := RX0) (T := TX0) (N := 5) hx hb hts iw_X10_isFair_X0 hown hK hP 2 rfl rfl 0 (by decide) (hts (.fieldLink RX10 21 "SoldHouse$Floor" "plan" "LSoldHouse$Plan;") (List.mem_of_getElem? (i := 3) rfl)) (fun _ h9 => h9) rfl dX10_isFair_7 ?_
  refine va_get (D := D) (ci := 5) (v := .int 0) (C := RX5) (T := TX5) (N := 16) hx hb hts iw_X10_isFair_X5 hown hK hP 3 rfl rfl 6 (by decide) (hts (.fieldLink RX10 27 "SoldHouse$Plan" "things" "I") (List.mem_of_getElem? (i := 4) rfl)) (fun _ h9 => h9) rfl dX10_isFair_10 ?_
  refine lv_istore_n (lv' := [(3, .int 0), (0, .ref a0), (1, .int 4), (2, .int x)]) hx hb dX10_isFair_13 rfl hl (by decide) rfl (fun ls hl => ?_)
  refine lv_iload_n hx hb dX10_isFair_14 rfl (lv_at hl 2 rfl) ?_
  refine lv_iload_n hx hb dX10_isFair_15 rfl (lv_at hl 0 rfl) ?_
  refine lv_icmp_ge (tgt := 40) hx hb dX10_isFair_16 (by decide) (fun _ => ?_) (fun c_1 => absurd (by decide) c_1)
  refine lv_iconst (v := 0) hx hb dX10_isFair_40 (by decide) ?_
  exact W.zret (v := 0) (ty := .boolean) hx hb hr (by decide) (fun t ht hW => ⟨0, rfl, rfl, ht⟩) (fun q hq => by cases hq) dX10_isFair_41
set_option maxHeartbeats 4000000 in
set_option maxRecDepth 100000 in
theorem c_isFair5 (l : Launch) (D : va_G) (cI : ClassId) (cB : ClassId) (cL : ClassId) (cZ : ClassId) (a0 : Nat) (aM : Nat) (aF : Nat) (aP : Nat) (mo : Nat) (ma : Nat) (mk : Nat) (mb : Nat) (mf : Nat) (fx : Nat) (fr : Nat) (fe : Nat) (pz : Nat → Nat) (su : Nat) (x : Int32) : Met l yX10_isFair wsX10_isFair ({ frames := 0, cells := 0, slots := 0, locals := 0 }) (xr D [(cI, .int), (cB, .byte), (cL, .long), (cZ, .boolean)] [(a0, .inr (10, [.ref aM])), (aM, .inr (3, [.ref aF, .ref mo, .ref ma, .ref mk, .int 0, .int 0, .int 0, .ref mb, .ref mf])), (aF, .inr (0, [.ref aP, .ref fx, .ref fr, .ref fe, .int 0])), (aP, .inr (5, PF pz su))] [.ref a0, .int 5, .int x]) (vp_Si (fun r => r = 0)) 0 0 (fun _ => False) := by
  refine Met.ofW (cc := cX10_isFair) (maxL := 4) (ret := (some .boolean)) (by decide) rfl ?_
  intro p e s m args below meth c s₁ B hml hv
  obtain ⟨rfl, hP, hK⟩ := hv
  have hx := B.exec
  have hb := B.bytes
  have hr := B.returns
  have hts := atoms_spec (ws := wsX10_isFair) B.pre
  have hown : s.vm.findClass RX10 = some m.cls := findClass_of_methodNamed B.named
  have hlocks := B.notSynchronized
  have hl := lv_entry ([.ref a0, .int 5, .int x]) (n := 4) (Nat.le_of_ble_eq_true rfl)
  rw [lg_entry_eq]
  generalize (lg_sl ([.ref a0, .int 5, .int x]) ++ List.replicate (4 - (lg_sl ([.ref a0, .int 5, .int x])).length) Slot.unset).toArray = ls at hl ⊢
  replace hl : lv_has ls 4 [(0, .ref a0), (1, .int 5), (2, .int x)] := hl
  refine lv_aload_n hx hb dX10_isFair_0 rfl (lv_at hl 0 rfl) ?_
  refine va_get (D := D) (ci := 10) (v := .ref aM) (C := RX10) (T := TX10) (N := 1) hx hb hts iw_X10_isFair_X10 hown hK hP 0 rfl rfl 0 (by decide) (hts (.fieldLink RX10 9 "SoldHouse$Trader" "memory" "LSoldHouse$Memory;") (List.mem_of_getElem? (i := 1) rfl)) (fun _ h9 => h9) rfl dX10_isFair_1 ?_
  refine va_get (D := D) (ci := 3) (v := .ref aF) (C := RX3) (T := TX3) (N := 9) hx hb hts iw_X10_isFair_X3 hown hK hP 1 rfl rfl 0 (by decide) (hts (.fieldLink RX10 15 "SoldHouse$Memory" "floor" "LSoldHouse$Floor;") (List.mem_of_getElem? (i := 2) rfl)) (fun _ h9 => h9) rfl dX10_isFair_4 ?_
  refine va_get (D := D) (ci := 0) (v := .ref aP) (C := RX0) (T := TX0) (N := 5) hx hb hts iw_X10_isFair_X0 hown hK hP 2 rfl rfl 0 (by decide) (hts (.fieldLink RX10 21 "SoldHouse$Floor" "plan" "LSoldHouse$Plan;") (List.mem_of_getElem? (i := 3) rfl)) (fun _ h9 => h9) rfl dX10_isFair_7 ?_
  refine va_get (D := D) (ci := 5) (v := .int 0) (C := RX5) (T := TX5) (N := 16) hx hb hts iw_X10_isFair_X5 hown hK hP 3 rfl rfl 6 (by decide) (hts (.fieldLink RX10 27 "SoldHouse$Plan" "things" "I") (List.mem_of_getElem? (i := 4) rfl)) (fun _ h9 => h9) rfl dX10_isFair_10 ?_
  refine lv_istore_n (lv' := [(3, .int 0), (0, .ref a0), (1, .int 5), (2, .int x)]) hx hb dX10_isFair_13 rfl hl (by decide) rfl (fun ls hl => ?_)
  refine lv_iload_n hx hb dX10_isFair_14 rfl (lv_at hl 2 rfl) ?_
  refine lv_iload_n hx hb dX10_isFair_15 rfl (lv_at hl 0 rfl) ?_
  refine lv_icmp_ge (tgt := 40) hx hb dX10_isFair_16 (by decide) (fun _ => ?_) (fun c_1 => absurd (by decide) c_1)
  refine lv_iconst (v := 0) hx hb dX10_isFair_40 (by decide) ?_
  exact W.zret (v := 0) (ty := .boolean) hx hb hr (by decide) (fun t ht hW => ⟨0, rfl, rfl, ht⟩) (fun q hq => by cases hq) dX10_isFair_41
set_option maxHeartbeats 4000000 in
set_option maxRecDepth 100000 in
theorem c_bestPair (l : Launch) (D : va_G) (cI : ClassId) (cB : ClassId) (cL : ClassId) (cZ : ClassId) (a0 : Nat) (aM : Nat) (aF : Nat) (aP : Nat) (mo : Nat) (ma : Nat) (mk : Nat) (mb : Nat) (mf : Nat) (fx : Nat) (fr : Nat) (fe : Nat) (pz : Nat → Nat) (su : Nat) : Met l yX10_bestPair wsX10_bestPair ({ frames := 1, cells := 0, slots := 0, locals := 23 }) (xr D [(cI, .int), (cB, .byte), (cL, .long), (cZ, .boolean)] [(a0, .inr (10, [.ref aM])), (aM, .inr (3, [.ref aF, .ref mo, .ref ma, .ref mk, .int 0, .int 0, .int 0, .ref mb, .ref mf])), (aF, .inr (0, [.ref aP, .ref fx, .ref fr, .ref fe, .int 0])), (aP, .inr (5, PF pz su))] [.ref a0]) (vp_Si (fun r => r = (-1))) 0 0 (fun _ => False) := by
  refine Met.ofW (cc := cX10_bestPair) (maxL := 6) (ret := (some .int)) (by decide) rfl ?_
  intro p e s m args below meth c s₁ B hml hv
  obtain ⟨rfl, hP, hK⟩ := hv
  have hx := B.exec
  have hb := B.bytes
  have hr := B.returns
  have hts := atoms_spec (ws := wsX10_bestPair) B.pre
  have hown : s.vm.findClass RX10 = some m.cls := findClass_of_methodNamed B.named
  have hlocks := B.notSynchronized
  have hl := lv_entry ([.ref a0]) (n := 6) (Nat.le_of_ble_eq_true rfl)
  rw [lg_entry_eq]
  generalize (lg_sl ([.ref a0]) ++ List.replicate (6 - (lg_sl ([.ref a0])).length) Slot.unset).toArray = ls at hl ⊢
  replace hl : lv_has ls 6 [(0, .ref a0)] := hl
  refine lv_iconst (v := (-1)) hx hb dX10_bestPair_0 (by decide) ?_
  refine lv_istore_n (lv' := [(1, .int (-1)), (0, .ref a0)]) hx hb dX10_bestPair_1 rfl hl (by decide) rfl (fun ls hl => ?_)
  refine lv_iconst (v := (-1)) hx hb dX10_bestPair_2 (by decide) ?_
  refine lv_istore_n (lv' := [(2, .int (-1)), (1, .int (-1)), (0, .ref a0)]) hx hb dX10_bestPair_3 rfl hl (by decide) rfl (fun ls hl => ?_)
  refine lv_iconst (v := 0) hx hb dX10_bestPair_4 (by decide) ?_
  refine lv_istore_n (lv' := [(3, .int 0), (2, .int (-1)), (1, .int (-1)), (0, .ref a0)]) hx hb dX10_bestPair_5 rfl hl (by decide) rfl (fun ls hl => ?_)
  refine lv_iload_n hx hb dX10_bestPair_6 rfl (lv_at hl 0 rfl) ?_
  refine lv_bipush (v := 36) hx hb dX10_bestPair_7 (by decide) ?_
  refine lv_icmp_ge (tgt := 64) hx hb dX10_bestPair_9 (by decide) (fun c_1 => absurd c_1 (by decide)) (fun _ => ?_)
  refine lv_iload_n hx hb dX10_bestPair_12 rfl (lv_at hl 0 rfl) ?_
  refine lv_bipush (v := 6) hx hb dX10_bestPair_13 (by decide) ?_
  refine lv_idiv hx hb dX10_bestPair_15 (by decide) ?_
  refine lv_topi (fun y_2 ey_2 => ?_)
  obtain rfl : y_2 = 0 := ey_2.trans (by decide)
  refine lv_istore (lv' := [(4, .int 0), (3, .int 0), (2, .int (-1)), (1, .int (-1)), (0, .ref a0)]) hx hb dX10_bestPair_16 hl (by decide) rfl (fun ls hl => ?_)
  refine lv_iload_n hx hb dX10_bestPair_18 rfl (lv_at hl 1 rfl) ?_
  refine lv_bipush (v := 6) hx hb dX10_bestPair_19 (by decide) ?_
  refine lv_irem hx hb dX10_bestPair_21 (by decide) ?_
  refine lv_topi (fun y_3 ey_3 => ?_)
  obtain rfl : y_3 = 0 := ey_3.trans (by decide)
  refine lv_istore (lv' := [(5, .int 0), (4, .int 0), (3, .int 0), (2, .int (-1)), (1, .int (-1)), (0, .ref a0)]) hx hb dX10_bestPair_22 hl (by decide) rfl (fun ls hl => ?_)
  refine lv_aload_n hx hb dX10_bestPair_24 rfl (lv_at hl 5 rfl) ?_
  refine lv_iload hx hb dX10_bestPair_25 (lv_at hl 1 rfl) ?_
  refine lv_iload hx hb dX10_bestPair_27 (lv_at hl 0 rfl) ?_
  have hPc := hP.sub (ws' := [(a0, .inr (10, [.ref aM])), (aM, .inr (3, [.ref aF, .ref mo, .ref ma, .ref mk, .int 0, .int 0, .int 0, .ref mb, .ref mf])), (aF, .inr (0, [.ref aP, .ref fx, .ref fr, .ref fe, .int 0])), (aP, .inr (5, PF pz su))]) [0, 1, 2, 3] rfl
  refine vp_callSi (va_runV (As := [.int 0, .int 0]) (rest := []) ⟨hx, hb, hml, hown, hts⟩ (c_isFair0 l D cI cB cL cZ a0 aM aF aP mo ma mk mb mf fx fr fe pz su 0) (cwV 2 hts gX10_bestPair_X10_isFair rfl rfl rfl (by decide +kernel) ⟨Nat.le_of_ble_eq_true rfl, Nat.le_of_ble_eq_true rfl⟩) ⟨xr_blind, va_recv hK hPc (ci := 10) (q0 := 0) rfl rfl, fun U hU hW => xr_mk hU hW hPc hK⟩ rfl rfl hl.1 rfl (lv_room (Nat.le_of_ble_eq_true rfl)) dX10_bestPair_29 ⟨Nat.le_of_ble_eq_true rfl, Nat.le_of_ble_eq_true rfl⟩).run (fun r_4 hr_4 => ?_)
  clear hPc
  subst hr_4
  refine lv_if_eq (tgt := 58) hx hb dX10_bestPair_32 (by decide) (fun _ => ?_) (fun c_5 => absurd (by decide) c_5)
  refine lv_iinc (v := 1) (lv' := [(3, .int 1), (5, .int 0), (4, .int 0), (2, .int (-1)), (1, .int (-1)), (0, .ref a0)]) hx hb dX10_bestPair_58 hl (k := 2) rfl (by decide) (by decide) rfl (fun ls hl => ?_)
  refine lv_goto (tgt := 6) hx hb dX10_bestPair_61 (by decide) ?_
  refine lv_iload_n hx hb dX10_bestPair_6 rfl (lv_at hl 0 rfl) ?_
  refine lv_bipush (v := 36) hx hb dX10_bestPair_7 (by decide) ?_
  refine lv_icmp_ge (tgt := 64) hx hb dX10_bestPair_9 (by decide) (fun c_6 => absurd c_6 (by decide)) (fun _ => ?_)
  refine lv_iload_n hx hb dX10_bestPair_12 rfl (lv_at hl 0 rfl) ?_
  refine lv_bipush (v := 6) hx hb dX10_bestPair_13 (by decide) ?_
  refine lv_idiv hx hb dX10_bestPair_15 (by decide) ?_
  refine lv_topi (fun y_7 ey_7 => ?_)
  obtain rfl : y_7 = 0 := ey_7.trans (by decide)
  refine lv_istore (lv' := [(4, .int 0), (3, .int 1), (5, .int 0), (2, .int (-1)), (1, .int (-1)), (0, .ref a0)]) hx hb dX10_bestPair_16 hl (by decide) rfl (fun ls hl => ?_)
  refine lv_iload_n hx hb dX10_bestPair_18 rfl (lv_at hl 1 rfl) ?_
  refine lv_bipush (v := 6) hx hb dX10_bestPair_19 (by decide) ?_
  refine lv_irem hx hb dX10_bestPair_21 (by decide) ?_
  refine lv_topi (fun y_8 ey_8 => ?_)
  obtain rfl : y_8 = 1 := ey_8.trans (by decide)
  refine lv_istore (lv' := [(5, .int 1), (4, .int 0), (3, .int 1), (2, .int (-1)), (1, .int (-1)), (0, .ref a0)]) hx hb dX10_bestPair_22 hl (by decide) rfl (fun ls hl => ?_)
  refine lv_aload_n hx hb dX10_bestPair_24 rfl (lv_at hl 5 rfl) ?_
  refine lv_iload hx hb dX10_bestPair_25 (lv_at hl 1 rfl) ?_
  refine lv_iload hx hb dX10_bestPair_27 (lv_at hl 0 rfl) ?_
  have hPc := hP.sub (ws' := [(a0, .inr (10, [.ref aM])), (aM, .inr (3, [.ref aF, .ref mo, .ref ma, .ref mk, .int 0, .int 0, .int 0, .ref mb, .ref mf])), (aF, .inr (0, [.ref aP, .ref fx, .ref fr, .ref fe, .int 0])), (aP, .inr (5, PF pz su))]) [0, 1, 2, 3] rfl
  refine vp_callSi (va_runV (As := [.int 0, .int 1]) (rest := []) ⟨hx, hb, hml, hown, hts⟩ (c_isFair0 l D cI cB cL cZ a0 aM aF aP mo ma mk mb mf fx fr fe pz su 1) (cwV 2 hts gX10_bestPair_X10_isFair rfl rfl rfl (by decide +kernel) ⟨Nat.le_of_ble_eq_true rfl, Nat.le_of_ble_eq_true rfl⟩) ⟨xr_blind, va_recv hK hPc (ci := 10) (q0 := 0) rfl rfl, fun U hU hW => xr_mk hU hW hPc hK⟩ rfl rfl hl.1 rfl (lv_room (Nat.le_of_ble_eq_true rfl)) dX10_bestPair_29 ⟨Nat.le_of_ble_eq_true rfl, Nat.le_of_ble_eq_true rfl⟩).run (fun r_9 hr_9 => ?_)
  clear hPc
  subst hr_9
  refine lv_if_eq (tgt := 58) hx hb dX10_bestPair_32 (by decide) (fun _ => ?_) (fun c_10 => absurd (by decide) c_10)
  refine lv_iinc (v := 2) (lv' := [(3, .int 2), (5, .int 1), (4, .int 0), (2, .int (-1)), (1, .int (-1)), (0, .ref a0)]) hx hb dX10_bestPair_58 hl (k := 2) rfl (by decide) (by decide) rfl (fun ls hl => ?_)
  refine lv_goto (tgt := 6) hx hb dX10_bestPair_61 (by decide) ?_
  refine lv_iload_n hx hb dX10_bestPair_6 rfl (lv_at hl 0 rfl) ?_
  refine lv_bipush (v := 36) hx hb dX10_bestPair_7 (by decide) ?_
  refine lv_icmp_ge (tgt := 64) hx hb dX10_bestPair_9 (by decide) (fun c_11 => absurd c_11 (by decide)) (fun _ => ?_)
  refine lv_iload_n hx hb dX10_bestPair_12 rfl (lv_at hl 0 rfl) ?_
  refine lv_bipush (v := 6) hx hb dX10_bestPair_13 (by decide) ?_
  refine lv_idiv hx hb dX10_bestPair_15 (by decide) ?_
  refine lv_topi (fun y_12 ey_12 => ?_)
  obtain rfl : y_12 = 0 := ey_12.trans (by decide)
  refine lv_istore (lv' := [(4, .int 0), (3, .int 2), (5, .int 1), (2, .int (-1)), (1, .int (-1)), (0, .ref a0)]) hx hb dX10_bestPair_16 hl (by decide) rfl (fun ls hl => ?_)
  refine lv_iload_n hx hb dX10_bestPair_18 rfl (lv_at hl 1 rfl) ?_
  refine lv_bipush (v := 6) hx hb dX10_bestPair_19 (by decide) ?_
  refine lv_irem hx hb dX10_bestPair_21 (by decide) ?_
  refine lv_topi (fun y_13 ey_13 => ?_)
  obtain rfl : y_13 = 2 := ey_13.trans (by decide)
  refine lv_istore (lv' := [(5, .int 2), (4, .int 0), (3, .int 2), (2, .int (-1)), (1, .int (-1)), (0, .ref a0)]) hx hb dX10_bestPair_22 hl (by decide) rfl (fun ls hl => ?_)
  refine lv_aload_n hx hb dX10_bestPair_24 rfl (lv_at hl 5 rfl) ?_
  refine lv_iload hx hb dX10_bestPair_25 (lv_at hl 1 rfl) ?_
  refine lv_iload hx hb dX10_bestPair_27 (lv_at hl 0 rfl) ?_
  have hPc := hP.sub (ws' := [(a0, .inr (10, [.ref aM])), (aM, .inr (3, [.ref aF, .ref mo, .ref ma, .ref mk, .int 0, .int 0, .int 0, .ref mb, .ref mf])), (aF, .inr (0, [.ref aP, .ref fx, .ref fr, .ref fe, .int 0])), (aP, .inr (5, PF pz su))]) [0, 1, 2, 3] rfl
  refine vp_callSi (va_runV (As := [.int 0, .int 2]) (rest := []) ⟨hx, hb, hml, hown, hts⟩ (c_isFair0 l D cI cB cL cZ a0 aM aF aP mo ma mk mb mf fx fr fe pz su 2) (cwV 2 hts gX10_bestPair_X10_isFair rfl rfl rfl (by decide +kernel) ⟨Nat.le_of_ble_eq_true rfl, Nat.le_of_ble_eq_true rfl⟩) ⟨xr_blind, va_recv hK hPc (ci := 10) (q0 := 0) rfl rfl, fun U hU hW => xr_mk hU hW hPc hK⟩ rfl rfl hl.1 rfl (lv_room (Nat.le_of_ble_eq_true rfl)) dX10_bestPair_29 ⟨Nat.le_of_ble_eq_true rfl, Nat.le_of_ble_eq_true rfl⟩).run (fun r_14 hr_14 => ?_)
  clear hPc
  subst hr_14
  refine lv_if_eq (tgt := 58) hx hb dX10_bestPair_32 (by decide) (fun _ => ?_) (fun c_15 => absurd (by decide) c_15)
  refine lv_iinc (v := 3) (lv' := [(3, .int 3), (5, .int 2), (4, .int 0), (2, .int (-1)), (1, .int (-1)), (0, .ref a0)]) hx hb dX10_bestPair_58 hl (k := 2) rfl (by decide) (by decide) rfl (fun ls hl => ?_)
  refine lv_goto (tgt := 6) hx hb dX10_bestPair_61 (by decide) ?_
  refine lv_iload_n hx hb dX10_bestPair_6 rfl (lv_at hl 0 rfl) ?_
  refine lv_bipush (v := 36) hx hb dX10_bestPair_7 (by decide) ?_
  refine lv_icmp_ge (tgt := 64) hx hb dX10_bestPair_9 (by decide) (fun c_16 => absurd c_16 (by decide)) (fun _ => ?_)
  refine lv_iload_n hx hb dX10_bestPair_12 rfl (lv_at hl 0 rfl) ?_
  refine lv_bipush (v := 6) hx hb dX10_bestPair_13 (by decide) ?_
  refine lv_idiv hx hb dX10_bestPair_15 (by decide) ?_
  refine lv_topi (fun y_17 ey_17 => ?_)
  obtain rfl : y_17 = 0 := ey_17.trans (by decide)
  refine lv_istore (lv' := [(4, .int 0), (3, .int 3), (5, .int 2), (2, .int (-1)), (1, .int (-1)), (0, .ref a0)]) hx hb dX10_bestPair_16 hl (by decide) rfl (fun ls hl => ?_)
  refine lv_iload_n hx hb dX10_bestPair_18 rfl (lv_at hl 1 rfl) ?_
  refine lv_bipush (v := 6) hx hb dX10_bestPair_19 (by decide) ?_
  refine lv_irem hx hb dX10_bestPair_21 (by decide) ?_
  refine lv_topi (fun y_18 ey_18 => ?_)
  obtain rfl : y_18 = 3 := ey_18.trans (by decide)
  refine lv_istore (lv' := [(5, .int 3), (4, .int 0), (3, .int 3), (2, .int (-1)), (1, .int (-1)), (0, .ref a0)]) hx hb dX10_bestPair_22 hl (by decide) rfl (fun ls hl => ?_)
  refine lv_aload_n hx hb dX10_bestPair_24 rfl (lv_at hl 5 rfl) ?_
  refine lv_iload hx hb dX10_bestPair_25 (lv_at hl 1 rfl) ?_
  refine lv_iload hx hb dX10_bestPair_27 (lv_at hl 0 rfl) ?_
  have hPc := hP.sub (ws' := [(a0, .inr (10, [.ref aM])), (aM, .inr (3, [.ref aF, .ref mo, .ref ma, .ref mk, .int 0, .int 0, .int 0, .ref mb, .ref mf])), (aF, .inr (0, [.ref aP, .ref fx, .ref fr, .ref fe, .int 0])), (aP, .inr (5, PF pz su))]) [0, 1, 2, 3] rfl
  refine vp_callSi (va_runV (As := [.int 0, .int 3]) (rest := []) ⟨hx, hb, hml, hown, hts⟩ (c_isFair0 l D cI cB cL cZ a0 aM aF aP mo ma mk mb mf fx fr fe pz su 3) (cwV 2 hts gX10_bestPair_X10_isFair rfl rfl rfl (by decide +kernel) ⟨Nat.le_of_ble_eq_true rfl, Nat.le_of_ble_eq_true rfl⟩) ⟨xr_blind, va_recv hK hPc (ci := 10) (q0 := 0) rfl rfl, fun U hU hW => xr_mk hU hW hPc hK⟩ rfl rfl hl.1 rfl (lv_room (Nat.le_of_ble_eq_true rfl)) dX10_bestPair_29 ⟨Nat.le_of_ble_eq_true rfl, Nat.le_of_ble_eq_true rfl⟩).run (fun r_19 hr_19 => ?_)
  clear hPc
  subst hr_19
  refine lv_if_eq (tgt := 58) hx hb dX10_bestPair_32 (by decide) (fun _ => ?_) (fun c_20 => absurd (by decide) c_20)
  refine lv_iinc (v := 4) (lv' := [(3, .int 4), (5, .int 3), (4, .int 0), (2, .int (-1)), (1, .int (-1)), (0, .ref a0)]) hx hb dX10_bestPair_58 hl (k := 2) rfl (by decide) (by decide) rfl (fun ls hl => ?_)
  refine lv_goto (tgt := 6) hx hb dX10_bestPair_61 (by decide) ?_
  refine lv_iload_n hx hb dX10_bestPair_6 rfl (lv_at hl 0 rfl) ?_
  refine lv_bipush (v := 36) hx hb dX10_bestPair_7 (by decide) ?_
  refine lv_icmp_ge (tgt := 64) hx hb dX10_bestPair_9 (by decide) (fun c_21 => absurd c_21 (by decide)) (fun _ => ?_)
  refine lv_iload_n hx hb dX10_bestPair_12 rfl (lv_at hl 0 rfl) ?_
  refine lv_bipush (v := 6) hx hb dX10_bestPair_13 (by decide) ?_
  refine lv_idiv hx hb dX10_bestPair_15 (by decide) ?_
  refine lv_topi (fun y_22 ey_22 => ?_)
  obtain rfl : y_22 = 0 := ey_22.trans (by decide)
  refine lv_istore (lv' := [(4, .int 0), (3, .int 4), (5, .int 3), (2, .int (-1)), (1, .int (-1)), (0, .ref a0)]) hx hb dX10_bestPair_16 hl (by decide) rfl (fun ls hl => ?_)
  refine lv_iload_n hx hb dX10_bestPair_18 rfl (lv_at hl 1 rfl) ?_
  refine lv_bipush (v := 6) hx hb dX10_bestPair_19 (by decide) ?_
  refine lv_irem hx hb dX10_bestPair_21 (by decide) ?_
  refine lv_topi (fun y_23 ey_23 => ?_)
  obtain rfl : y_23 = 4 := ey_23.trans (by decide)
  refine lv_istore (lv' := [(5, .int 4), (4, .int 0), (3, .int 4), (2, .int (-1)), (1, .int (-1)), (0, .ref a0)]) hx hb dX10_bestPair_22 hl (by decide) rfl (fun ls hl => ?_)
  refine lv_aload_n hx hb dX10_bestPair_24 rfl (lv_at hl 5 rfl) ?_
  refine lv_iload hx hb dX10_bestPair_25 (lv_at hl 1 rfl) ?_
  refine lv_iload hx hb dX10_bestPair_27 (lv_at hl 0 rfl) ?_
  have hPc := hP.sub (ws' := [(a0, .inr (10, [.ref aM])), (aM, .inr (3, [.ref aF, .ref mo, .ref ma, .ref mk, .int 0, .int 0, .int 0, .ref mb, .ref mf])), (aF, .inr (0, [.ref aP, .ref fx, .ref fr, .ref fe, .int 0])), (aP, .inr (5, PF pz su))]) [0, 1, 2, 3] rfl
  refine vp_callSi (va_runV (As := [.int 0, .int 4]) (rest := []) ⟨hx, hb, hml, hown, hts⟩ (c_isFair0 l D cI cB cL cZ a0 aM aF aP mo ma mk mb mf fx fr fe pz su 4) (cwV 2 hts gX10_bestPair_X10_isFair rfl rfl rfl (by decide +kernel) ⟨Nat.le_of_ble_eq_true rfl, Nat.le_of_ble_eq_true rfl⟩) ⟨xr_blind, va_recv hK hPc (ci := 10) (q0 := 0) rfl rfl, fun U hU hW => xr_mk hU hW hPc hK⟩ rfl rfl hl.1 rfl (lv_room (Nat.le_of_ble_eq_true rfl)) dX10_bestPair_29 ⟨Nat.le_of_ble_eq_true rfl, Nat.le_of_ble_eq_true rfl⟩).run (fun r_24 hr_24 => ?_)
  clear hPc
  subst hr_24
  refine lv_if_eq (tgt := 58) hx hb dX10_bestPair_32 (by decide) (fun _ => ?_) (fun c_25 => absurd (by decide) c_25)
  refine lv_iinc (v := 5) (lv' := [(3, .int 5), (5, .int 4), (4, .int 0), (2, .int (-1)), (1, .int (-1)), (0, .ref a0)]) hx hb dX10_bestPair_58 hl (k := 2) rfl (by decide) (by decide) rfl (fun ls hl => ?_)
  refine lv_goto (tgt := 6) hx hb dX10_bestPair_61 (by decide) ?_
  refine lv_iload_n hx hb dX10_bestPair_6 rfl (lv_at hl 0 rfl) ?_
  refine lv_bipush (v := 36) hx hb dX10_bestPair_7 (by decide) ?_
  refine lv_icmp_ge (tgt := 64) hx hb dX10_bestPair_9 (by decide) (fun c_26 => absurd c_26 (by decide)) (fun _ => ?_)
  refine lv_iload_n hx hb dX10_bestPair_12 rfl (lv_at hl 0 rfl) ?_
  refine lv_bipush (v := 6) hx hb dX10_bestPair_13 (by decide) ?_
  refine lv_idiv hx hb dX10_bestPair_15 (by decide) ?_
  refine lv_topi (fun y_27 ey_27 => ?_)
  obtain rfl : y_27 = 0 := ey_27.trans (by decide)
  refine lv_istore (lv' := [(4, .int 0), (3, .int 5), (5, .int 4), (2, .int (-1)), (1, .int (-1)), (0, .ref a0)]) hx hb dX10_bestPair_16 hl (by decide) rfl (fun ls hl => ?_)
  refine lv_iload_n hx hb dX10_bestPair_18 rfl (lv_at hl 1 rfl) ?_
  refine lv_bipush (v := 6) hx hb dX10_bestPair_19 (by decide) ?_
  refine lv_irem hx hb dX10_bestPair_21 (by decide) ?_
  refine lv_topi (fun y_28 ey_28 => ?_)
  obtain rfl : y_28 = 5 := ey_28.trans (by decide)
  refine lv_istore (lv' := [(5, .int 5), (4, .int 0), (3, .int 5), (2, .int (-1)), (1, .int (-1)), (0, .ref a0)]) hx hb dX10_bestPair_22 hl (by decide) rfl (fun ls hl => ?_)
  refine lv_aload_n hx hb dX10_bestPair_24 rfl (lv_at hl 5 rfl) ?_
  refine lv_iload hx hb dX10_bestPair_25 (lv_at hl 1 rfl) ?_
  refine lv_iload hx hb dX10_bestPair_27 (lv_at hl 0 rfl) ?_
  have hPc := hP.sub (ws' := [(a0, .inr (10, [.ref aM])), (aM, .inr (3, [.ref aF, .ref mo, .ref ma, .ref mk, .int 0, .int 0, .int 0, .ref mb, .ref mf])), (aF, .inr (0, [.ref aP, .ref fx, .ref fr, .ref fe, .int 0])), (aP, .inr (5, PF pz su))]) [0, 1, 2, 3] rfl
  refine vp_callSi (va_runV (As := [.int 0, .int 5]) (rest := []) ⟨hx, hb, hml, hown, hts⟩ (c_isFair0 l D cI cB cL cZ a0 aM aF aP mo ma mk mb mf fx fr fe pz su 5) (cwV 2 hts gX10_bestPair_X10_isFair rfl rfl rfl (by decide +kernel) ⟨Nat.le_of_ble_eq_true rfl, Nat.le_of_ble_eq_true rfl⟩) ⟨xr_blind, va_recv hK hPc (ci := 10) (q0 := 0) rfl rfl, fun U hU hW => xr_mk hU hW hPc hK⟩ rfl rfl hl.1 rfl (lv_room (Nat.le_of_ble_eq_true rfl)) dX10_bestPair_29 ⟨Nat.le_of_ble_eq_true rfl, Nat.le_of_ble_eq_true rfl⟩).run (fun r_29 hr_29 => ?_)
  clear hPc
  subst hr_29
  refine lv_if_eq (tgt := 58) hx hb dX10_bestPair_32 (by decide) (fun _ => ?_) (fun c_30 => absurd (by decide) c_30)
  refine lv_iinc (v := 6) (lv' := [(3, .int 6), (5, .int 5), (4, .int 0), (2, .int (-1)), (1, .int (-1)), (0, .ref a0)]) hx hb dX10_bestPair_58 hl (k := 2) rfl (by decide) (by decide) rfl (fun ls hl => ?_)
  refine lv_goto (tgt := 6) hx hb dX10_bestPair_61 (by decide) ?_
  refine lv_iload_n hx hb dX10_bestPair_6 rfl (lv_at hl 0 rfl) ?_
  refine lv_bipush (v := 36) hx hb dX10_bestPair_7 (by decide) ?_
  refine lv_icmp_ge (tgt := 64) hx hb dX10_bestPair_9 (by decide) (fun c_31 => absurd c_31 (by decide)) (fun _ => ?_)
  refine lv_iload_n hx hb dX10_bestPair_12 rfl (lv_at hl 0 rfl) ?_
  refine lv_bipush (v := 6) hx hb dX10_bestPair_13 (by decide) ?_
  refine lv_idiv hx hb dX10_bestPair_15 (by decide) ?_
  refine lv_topi (fun y_32 ey_32 => ?_)
  obtain rfl : y_32 = 1 := ey_32.trans (by decide)
  refine lv_istore (lv' := [(4, .int 1), (3, .int 6), (5, .int 5), (2, .int (-1)), (1, .int (-1)), (0, .ref a0)]) hx hb dX10_bestPair_16 hl (by decide) rfl (fun ls hl => ?_)
  refine lv_iload_n hx hb dX10_bestPair_18 rfl (lv_at hl 1 rfl) ?_
  refine lv_bipush (v := 6) hx hb dX10_bestPair_19 (by decide) ?_
  refine lv_irem hx hb dX10_bestPair_21 (by decide) ?_
  refine lv_topi (fun y_33 ey_33 => ?_)
  obtain rfl : y_33 = 0 := ey_33.trans (by decide)
  refine lv_istore (lv' := [(5, .int 0), (4, .int 1), (3, .int 6), (2, .int (-1)), (1, .int (-1)), (0, .ref a0)]) hx hb dX10_bestPair_22 hl (by decide) rfl (fun ls hl => ?_)
  refine lv_aload_n hx hb dX10_bestPair_24 rfl (lv_at hl 5 rfl) ?_
  refine lv_iload hx hb dX10_bestPair_25 (lv_at hl 1 rfl) ?_
  refine lv_iload hx hb dX10_bestPair_27 (lv_at hl 0 rfl) ?_
  have hPc := hP.sub (ws' := [(a0, .inr (10, [.ref aM])), (aM, .inr (3, [.ref aF, .ref mo, .ref ma, .ref mk, .int 0, .int 0, .int 0, .ref mb, .ref mf])), (aF, .inr (0, [.ref aP, .ref fx, .ref fr, .ref fe, .int 0])), (aP, .inr (5, PF pz su))]) [0, 1, 2, 3] rfl
  refine vp_callSi (va_runV (As := [.int 1, .int 0]) (rest := []) ⟨hx, hb, hml, hown, hts⟩ (c_isFair1 l D cI cB cL cZ a0 aM aF aP mo ma mk mb mf fx fr fe pz su 0) (cwV 2 hts gX10_bestPair_X10_isFair rfl rfl rfl (by decide +kernel) ⟨Nat.le_of_ble_eq_true rfl, Nat.le_of_ble_eq_true rfl⟩) ⟨xr_blind, va_recv hK hPc (ci := 10) (q0 := 0) rfl rfl, fun U hU hW => xr_mk hU hW hPc hK⟩ rfl rfl hl.1 rfl (lv_room (Nat.le_of_ble_eq_true rfl)) dX10_bestPair_29 ⟨Nat.le_of_ble_eq_true rfl, Nat.le_of_ble_eq_true rfl⟩).run (fun r_34 hr_34 => ?_)
  clear hPc
  subst hr_34
  refine lv_if_eq (tgt := 58) hx hb dX10_bestPair_32 (by decide) (fun _ => ?_) (fun c_35 => absurd (by decide) c_35)
  refine lv_iinc (v := 7) (lv' := [(3, .int 7), (5, .int 0), (4, .int 1), (2, .int (-1)), (1, .int (-1)), (0, .ref a0)]) hx hb dX10_bestPair_58 hl (k := 2) rfl (by decide) (by decide) rfl (fun ls hl => ?_)
  refine lv_goto (tgt := 6) hx hb dX10_bestPair_61 (by decide) ?_
  refine lv_iload_n hx hb dX10_bestPair_6 rfl (lv_at hl 0 rfl) ?_
  refine lv_bipush (v := 36) hx hb dX10_bestPair_7 (by decide) ?_
  refine lv_icmp_ge (tgt := 64) hx hb dX10_bestPair_9 (by decide) (fun c_36 => absurd c_36 (by decide)) (fun _ => ?_)
  refine lv_iload_n hx hb dX10_bestPair_12 rfl (lv_at hl 0 rfl) ?_
  refine lv_bipush (v := 6) hx hb dX10_bestPair_13 (by decide) ?_
  refine lv_idiv hx hb dX10_bestPair_15 (by decide) ?_
  refine lv_topi (fun y_37 ey_37 => ?_)
  obtain rfl : y_37 = 1 := ey_37.trans (by decide)
  refine lv_istore (lv' := [(4, .int 1), (3, .int 7), (5, .int 0), (2, .int (-1)), (1, .int (-1)), (0, .ref a0)]) hx hb dX10_bestPair_16 hl (by decide) rfl (fun ls hl => ?_)
  refine lv_iload_n hx hb dX10_bestPair_18 rfl (lv_at hl 1 rfl) ?_
  refine lv_bipush (v := 6) hx hb dX10_bestPair_19 (by decide) ?_
  refine lv_irem hx hb dX10_bestPair_21 (by decide) ?_
  refine lv_topi (fun y_38 ey_38 => ?_)
  obtain rfl : y_38 = 1 := ey_38.trans (by decide)
  refine lv_istore (lv' := [(5, .int 1), (4, .int 1), (3, .int 7), (2, .int (-1)), (1, .int (-1)), (0, .ref a0)]) hx hb dX10_bestPair_22 hl (by decide) rfl (fun ls hl => ?_)
  refine lv_aload_n hx hb dX10_bestPair_24 rfl (lv_at hl 5 rfl) ?_
  refine lv_iload hx hb dX10_bestPair_25 (lv_at hl 1 rfl) ?_
  refine lv_iload hx hb dX10_bestPair_27 (lv_at hl 0 rfl) ?_
  have hPc := hP.sub (ws' := [(a0, .inr (10, [.ref aM])), (aM, .inr (3, [.ref aF, .ref mo, .ref ma, .ref mk, .int 0, .int 0, .int 0, .ref mb, .ref mf])), (aF, .inr (0, [.ref aP, .ref fx, .ref fr, .ref fe, .int 0])), (aP, .inr (5, PF pz su))]) [0, 1, 2, 3] rfl
  refine vp_callSi (va_runV (As := [.int 1, .int 1]) (rest := []) ⟨hx, hb, hml, hown, hts⟩ (c_isFair1 l D cI cB cL cZ a0 aM aF aP mo ma mk mb mf fx fr fe pz su 1) (cwV 2 hts gX10_bestPair_X10_isFair rfl rfl rfl (by decide +kernel) ⟨Nat.le_of_ble_eq_true rfl, Nat.le_of_ble_eq_true rfl⟩) ⟨xr_blind, va_recv hK hPc (ci := 10) (q0 := 0) rfl rfl, fun U hU hW => xr_mk hU hW hPc hK⟩ rfl rfl hl.1 rfl (lv_room (Nat.le_of_ble_eq_true rfl)) dX10_bestPair_29 ⟨Nat.le_of_ble_eq_true rfl, Nat.le_of_ble_eq_true rfl⟩).run (fun r_39 hr_39 => ?_)
  clear hPc
  subst hr_39
  refine lv_if_eq (tgt := 58) hx hb dX10_bestPair_32 (by decide) (fun _ => ?_) (fun c_40 => absurd (by decide) c_40)
  refine lv_iinc (v := 8) (lv' := [(3, .int 8), (5, .int 1), (4, .int 1), (2, .int (-1)), (1, .int (-1)), (0, .ref a0)]) hx hb dX10_bestPair_58 hl (k := 2) rfl (by decide) (by decide) rfl (fun ls hl => ?_)
  refine lv_goto (tgt := 6) hx hb dX10_bestPair_61 (by decide) ?_
  refine lv_iload_n hx hb dX10_bestPair_6 rfl (lv_at hl 0 rfl) ?_
  refine lv_bipush (v := 36) hx hb dX10_bestPair_7 (by decide) ?_
  refine lv_icmp_ge (tgt := 64) hx hb dX10_bestPair_9 (by decide) (fun c_41 => absurd c_41 (by decide)) (fun _ => ?_)
  refine lv_iload_n hx hb dX10_bestPair_12 rfl (lv_at hl 0 rfl) ?_
  refine lv_bipush (v := 6) hx hb dX10_bestPair_13 (by decide) ?_
  refine lv_idiv hx hb dX10_bestPair_15 (by decide) ?_
  refine lv_topi (fun y_42 ey_42 => ?_)
  obtain rfl : y_42 = 1 := ey_42.trans (by decide)
  refine lv_istore (lv' := [(4, .int 1), (3, .int 8), (5, .int 1), (2, .int (-1)), (1, .int (-1)), (0, .ref a0)]) hx hb dX10_bestPair_16 hl (by decide) rfl (fun ls hl => ?_)
  refine lv_iload_n hx hb dX10_bestPair_18 rfl (lv_at hl 1 rfl) ?_
  refine lv_bipush (v := 6) hx hb dX10_bestPair_19 (by decide) ?_
  refine lv_irem hx hb dX10_bestPair_21 (by decide) ?_
  refine lv_topi (fun y_43 ey_43 => ?_)
  obtain rfl : y_43 = 2 := ey_43.trans (by decide)
  refine lv_istore (lv' := [(5, .int 2), (4, .int 1), (3, .int 8), (2, .int (-1)), (1, .int (-1)), (0, .ref a0)]) hx hb dX10_bestPair_22 hl (by decide) rfl (fun ls hl => ?_)
  refine lv_aload_n hx hb dX10_bestPair_24 rfl (lv_at hl 5 rfl) ?_
  refine lv_iload hx hb dX10_bestPair_25 (lv_at hl 1 rfl) ?_
  refine lv_iload hx hb dX10_bestPair_27 (lv_at hl 0 rfl) ?_
  have hPc := hP.sub (ws' := [(a0, .inr (10, [.ref aM])), (aM, .inr (3, [.ref aF, .ref mo, .ref ma, .ref mk, .int 0, .int 0, .int 0, .ref mb, .ref mf])), (aF, .inr (0, [.ref aP, .ref fx, .ref fr, .ref fe, .int 0])), (aP, .inr (5, PF pz su))]) [0, 1, 2, 3] rfl
  refine vp_callSi (va_runV (As := [.int 1, .int 2]) (rest := []) ⟨hx, hb, hml, hown, hts⟩ (c_isFair1 l D cI cB cL cZ a0 aM aF aP mo ma mk mb mf fx fr fe pz su 2) (cwV 2 hts gX10_bestPair_X10_isFair rfl rfl rfl (by decide +kernel) ⟨Nat.le_of_ble_eq_true rfl, Nat.le_of_ble_eq_true rfl⟩) ⟨xr_blind, va_recv hK hPc (ci := 10) (q0 := 0) rfl rfl, fun U hU hW => xr_mk hU hW hPc hK⟩ rfl rfl hl.1 rfl (lv_room (Nat.le_of_ble_eq_true rfl)) dX10_bestPair_29 ⟨Nat.le_of_ble_eq_true rfl, Nat.le_of_ble_eq_true rfl⟩).run (fun r_44 hr_44 => ?_)
  clear hPc
  subst hr_44
  refine lv_if_eq (tgt := 58) hx hb dX10_bestPair_32 (by decide) (fun _ => ?_) (fun c_45 => absurd (by decide) c_45)
  refine lv_iinc (v := 9) (lv' := [(3, .int 9), (5, .int 2), (4, .int 1), (2, .int (-1)), (1, .int (-1)), (0, .ref a0)]) hx hb dX10_bestPair_58 hl (k := 2) rfl (by decide) (by decide) rfl (fun ls hl => ?_)
  refine lv_goto (tgt := 6) hx hb dX10_bestPair_61 (by decide) ?_
  refine lv_iload_n hx hb dX10_bestPair_6 rfl (lv_at hl 0 rfl) ?_
  refine lv_bipush (v := 36) hx hb dX10_bestPair_7 (by decide) ?_
  refine lv_icmp_ge (tgt := 64) hx hb dX10_bestPair_9 (by decide) (fun c_46 => absurd c_46 (by decide)) (fun _ => ?_)
  refine lv_iload_n hx hb dX10_bestPair_12 rfl (lv_at hl 0 rfl) ?_
  refine lv_bipush (v := 6) hx hb dX10_bestPair_13 (by decide) ?_
  refine lv_idiv hx hb dX10_bestPair_15 (by decide) ?_
  refine lv_topi (fun y_47 ey_47 => ?_)
  obtain rfl : y_47 = 1 := ey_47.trans (by decide)
  refine lv_istore (lv' := [(4, .int 1), (3, .int 9), (5, .int 2), (2, .int (-1)), (1, .int (-1)), (0, .ref a0)]) hx hb dX10_bestPair_16 hl (by decide) rfl (fun ls hl => ?_)
  refine lv_iload_n hx hb dX10_bestPair_18 rfl (lv_at hl 1 rfl) ?_
  refine lv_bipush (v := 6) hx hb dX10_bestPair_19 (by decide) ?_
  refine lv_irem hx hb dX10_bestPair_21 (by decide) ?_
  refine lv_topi (fun y_48 ey_48 => ?_)
  obtain rfl : y_48 = 3 := ey_48.trans (by decide)
  refine lv_istore (lv' := [(5, .int 3), (4, .int 1), (3, .int 9), (2, .int (-1)), (1, .int (-1)), (0, .ref a0)]) hx hb dX10_bestPair_22 hl (by decide) rfl (fun ls hl => ?_)
  refine lv_aload_n hx hb dX10_bestPair_24 rfl (lv_at hl 5 rfl) ?_
  refine lv_iload hx hb dX10_bestPair_25 (lv_at hl 1 rfl) ?_
  refine lv_iload hx hb dX10_bestPair_27 (lv_at hl 0 rfl) ?_
  have hPc := hP.sub (ws' := [(a0, .inr (10, [.ref aM])), (aM, .inr (3, [.ref aF, .ref mo, .ref ma, .ref mk, .int 0, .int 0, .int 0, .ref mb, .ref mf])), (aF, .inr (0, [.ref aP, .ref fx, .ref fr, .ref fe, .int 0])), (aP, .inr (5, PF pz su))]) [0, 1, 2, 3] rfl
  refine vp_callSi (va_runV (As := [.int 1, .int 3]) (rest := []) ⟨hx, hb, hml, hown, hts⟩ (c_isFair1 l D cI cB cL cZ a0 aM aF aP mo ma mk mb mf fx fr fe pz su 3) (cwV 2 hts gX10_bestPair_X10_isFair rfl rfl rfl (by decide +kernel) ⟨Nat.le_of_ble_eq_true rfl, Nat.le_of_ble_eq_true rfl⟩) ⟨xr_blind, va_recv hK hPc (ci := 10) (q0 := 0) rfl rfl, fun U hU hW => xr_mk hU hW hPc hK⟩ rfl rfl hl.1 rfl (lv_room (Nat.le_of_ble_eq_true rfl)) dX10_bestPair_29 ⟨Nat.le_of_ble_eq_true rfl, Nat.le_of_ble_eq_true rfl⟩).run (fun r_49 hr_49 => ?_)
  clear hPc
  subst hr_49
  refine lv_if_eq (tgt := 58) hx hb dX10_bestPair_32 (by decide) (fun _ => ?_) (fun c_50 => absurd (by decide) c_50)
  refine lv_iinc (v := 10) (lv' := [(3, .int 10), (5, .int 3), (4, .int 1), (2, .int (-1)), (1, .int (-1)), (0, .ref a0)]) hx hb dX10_bestPair_58 hl (k := 2) rfl (by decide) (by decide) rfl (fun ls hl => ?_)
  refine lv_goto (tgt := 6) hx hb dX10_bestPair_61 (by decide) ?_
  refine lv_iload_n hx hb dX10_bestPair_6 rfl (lv_at hl 0 rfl) ?_
  refine lv_bipush (v := 36) hx hb dX10_bestPair_7 (by decide) ?_
  refine lv_icmp_ge (tgt := 64) hx hb dX10_bestPair_9 (by decide) (fun c_51 => absurd c_51 (by decide)) (fun _ => ?_)
  refine lv_iload_n hx hb dX10_bestPair_12 rfl (lv_at hl 0 rfl) ?_
  refine lv_bipush (v := 6) hx hb dX10_bestPair_13 (by decide) ?_
  refine lv_idiv hx hb dX10_bestPair_15 (by decide) ?_
  refine lv_topi (fun y_52 ey_52 => ?_)
  obtain rfl : y_52 = 1 := ey_52.trans (by decide)
  refine lv_istore (lv' := [(4, .int 1), (3, .int 10), (5, .int 3), (2, .int (-1)), (1, .int (-1)), (0, .ref a0)]) hx hb dX10_bestPair_16 hl (by decide) rfl (fun ls hl => ?_)
  refine lv_iload_n hx hb dX10_bestPair_18 rfl (lv_at hl 1 rfl) ?_
  refine lv_bipush (v := 6) hx hb dX10_bestPair_19 (by decide) ?_
  refine lv_irem hx hb dX10_bestPair_21 (by decide) ?_
  refine lv_topi (fun y_53 ey_53 => ?_)
  obtain rfl : y_53 = 4 := ey_53.trans (by decide)
  refine lv_istore (lv' := [(5, .int 4), (4, .int 1), (3, .int 10), (2, .int (-1)), (1, .int (-1)), (0, .ref a0)]) hx hb dX10_bestPair_22 hl (by decide) rfl (fun ls hl => ?_)
  refine lv_aload_n hx hb dX10_bestPair_24 rfl (lv_at hl 5 rfl) ?_
  refine lv_iload hx hb dX10_bestPair_25 (lv_at hl 1 rfl) ?_
  refine lv_iload hx hb dX10_bestPair_27 (lv_at hl 0 rfl) ?_
  have hPc := hP.sub (ws' := [(a0, .inr (10, [.ref aM])), (aM, .inr (3, [.ref aF, .ref mo, .ref ma, .ref mk, .int 0, .int 0, .int 0, .ref mb, .ref mf])), (aF, .inr (0, [.ref aP, .ref fx, .ref fr, .ref fe, .int 0])), (aP, .inr (5, PF pz su))]) [0, 1, 2, 3] rfl
  refine vp_callSi (va_runV (As := [.int 1, .int 4]) (rest := []) ⟨hx, hb, hml, hown, hts⟩ (c_isFair1 l D cI cB cL cZ a0 aM aF aP mo ma mk mb mf fx fr fe pz su 4) (cwV 2 hts gX10_bestPair_X10_isFair rfl rfl rfl (by decide +kernel) ⟨Nat.le_of_ble_eq_true rfl, Nat.le_of_ble_eq_true rfl⟩) ⟨xr_blind, va_recv hK hPc (ci := 10) (q0 := 0) rfl rfl, fun U hU hW => xr_mk hU hW hPc hK⟩ rfl rfl hl.1 rfl (lv_room (Nat.le_of_ble_eq_true rfl)) dX10_bestPair_29 ⟨Nat.le_of_ble_eq_true rfl, Nat.le_of_ble_eq_true rfl⟩).run (fun r_54 hr_54 => ?_)
  clear hPc
  subst hr_54
  refine lv_if_eq (tgt := 58) hx hb dX10_bestPair_32 (by decide) (fun _ => ?_) (fun c_55 => absurd (by decide) c_55)
  refine lv_iinc (v := 11) (lv' := [(3, .int 11), (5, .int 4), (4, .int 1), (2, .int (-1)), (1, .int (-1)), (0, .ref a0)]) hx hb dX10_bestPair_58 hl (k := 2) rfl (by decide) (by decide) rfl (fun ls hl => ?_)
  refine lv_goto (tgt := 6) hx hb dX10_bestPair_61 (by decide) ?_
  refine lv_iload_n hx hb dX10_bestPair_6 rfl (lv_at hl 0 rfl) ?_
  refine lv_bipush (v := 36) hx hb dX10_bestPair_7 (by decide) ?_
  refine lv_icmp_ge (tgt := 64) hx hb dX10_bestPair_9 (by decide) (fun c_56 => absurd c_56 (by decide)) (fun _ => ?_)
  refine lv_iload_n hx hb dX10_bestPair_12 rfl (lv_at hl 0 rfl) ?_
  refine lv_bipush (v := 6) hx hb dX10_bestPair_13 (by decide) ?_
  refine lv_idiv hx hb dX10_bestPair_15 (by decide) ?_
  refine lv_topi (fun y_57 ey_57 => ?_)
  obtain rfl : y_57 = 1 := ey_57.trans (by decide)
  refine lv_istore (lv' := [(4, .int 1), (3, .int 11), (5, .int 4), (2, .int (-1)), (1, .int (-1)), (0, .ref a0)]) hx hb dX10_bestPair_16 hl (by decide) rfl (fun ls hl => ?_)
  refine lv_iload_n hx hb dX10_bestPair_18 rfl (lv_at hl 1 rfl) ?_
  refine lv_bipush (v := 6) hx hb dX10_bestPair_19 (by decide) ?_
  refine lv_irem hx hb dX10_bestPair_21 (by decide) ?_
  refine lv_topi (fun y_58 ey_58 => ?_)
  obtain rfl : y_58 = 5 := ey_58.trans (by decide)
  refine lv_istore (lv' := [(5, .int 5), (4, .int 1), (3, .int 11), (2, .int (-1)), (1, .int (-1)), (0, .ref a0)]) hx hb dX10_bestPair_22 hl (by decide) rfl (fun ls hl => ?_)
  refine lv_aload_n hx hb dX10_bestPair_24 rfl (lv_at hl 5 rfl) ?_
  refine lv_iload hx hb dX10_bestPair_25 (lv_at hl 1 rfl) ?_
  refine lv_iload hx hb dX10_bestPair_27 (lv_at hl 0 rfl) ?_
  have hPc := hP.sub (ws' := [(a0, .inr (10, [.ref aM])), (aM, .inr (3, [.ref aF, .ref mo, .ref ma, .ref mk, .int 0, .int 0, .int 0, .ref mb, .ref mf])), (aF, .inr (0, [.ref aP, .ref fx, .ref fr, .ref fe, .int 0])), (aP, .inr (5, PF pz su))]) [0, 1, 2, 3] rfl
  refine vp_callSi (va_runV (As := [.int 1, .int 5]) (rest := []) ⟨hx, hb, hml, hown, hts⟩ (c_isFair1 l D cI cB cL cZ a0 aM aF aP mo ma mk mb mf fx fr fe pz su 5) (cwV 2 hts gX10_bestPair_X10_isFair rfl rfl rfl (by decide +kernel) ⟨Nat.le_of_ble_eq_true rfl, Nat.le_of_ble_eq_true rfl⟩) ⟨xr_blind, va_recv hK hPc (ci := 10) (q0 := 0) rfl rfl, fun U hU hW => xr_mk hU hW hPc hK⟩ rfl rfl hl.1 rfl (lv_room (Nat.le_of_ble_eq_true rfl)) dX10_bestPair_29 ⟨Nat.le_of_ble_eq_true rfl, Nat.le_of_ble_eq_true rfl⟩).run (fun r_59 hr_59 => ?_)
  clear hPc
  subst hr_59
  refine lv_if_eq (tgt := 58) hx hb dX10_bestPair_32 (by decide) (fun _ => ?_) (fun c_60 => absurd (by decide) c_60)
  refine lv_iinc (v := 12) (lv' := [(3, .int 12), (5, .int 5), (4, .int 1), (2, .int (-1)), (1, .int (-1)), (0, .ref a0)]) hx hb dX10_bestPair_58 hl (k := 2) rfl (by decide) (by decide) rfl (fun ls hl => ?_)
  refine lv_goto (tgt := 6) hx hb dX10_bestPair_61 (by decide) ?_
  refine lv_iload_n hx hb dX10_bestPair_6 rfl (lv_at hl 0 rfl) ?_
  refine lv_bipush (v := 36) hx hb dX10_bestPair_7 (by decide) ?_
  refine lv_icmp_ge (tgt := 64) hx hb dX10_bestPair_9 (by decide) (fun c_61 => absurd c_61 (by decide)) (fun _ => ?_)
  refine lv_iload_n hx hb dX10_bestPair_12 rfl (lv_at hl 0 rfl) ?_
  refine lv_bipush (v := 6) hx hb dX10_bestPair_13 (by decide) ?_
  refine lv_idiv hx hb dX10_bestPair_15 (by decide) ?_
  refine lv_topi (fun y_62 ey_62 => ?_)
  obtain rfl : y_62 = 2 := ey_62.trans (by decide)
  refine lv_istore (lv' := [(4, .int 2), (3, .int 12), (5, .int 5), (2, .int (-1)), (1, .int (-1)), (0, .ref a0)]) hx hb dX10_bestPair_16 hl (by decide) rfl (fun ls hl => ?_)
  refine lv_iload_n hx hb dX10_bestPair_18 rfl (lv_at hl 1 rfl) ?_
  refine lv_bipush (v := 6) hx hb dX10_bestPair_19 (by decide) ?_
  refine lv_irem hx hb dX10_bestPair_21 (by decide) ?_
  refine lv_topi (fun y_63 ey_63 => ?_)
  obtain rfl : y_63 = 0 := ey_63.trans (by decide)
  refine lv_istore (lv' := [(5, .int 0), (4, .int 2), (3, .int 12), (2, .int (-1)), (1, .int (-1)), (0, .ref a0)]) hx hb dX10_bestPair_22 hl (by decide) rfl (fun ls hl => ?_)
  refine lv_aload_n hx hb dX10_bestPair_24 rfl (lv_at hl 5 rfl) ?_
  refine lv_iload hx hb dX10_bestPair_25 (lv_at hl 1 rfl) ?_
  refine lv_iload hx hb dX10_bestPair_27 (lv_at hl 0 rfl) ?_
  have hPc := hP.sub (ws' := [(a0, .inr (10, [.ref aM])), (aM, .inr (3, [.ref aF, .ref mo, .ref ma, .ref mk, .int 0, .int 0, .int 0, .ref mb, .ref mf])), (aF, .inr (0, [.ref aP, .ref fx, .ref fr, .ref fe, .int 0])), (aP, .inr (5, PF pz su))]) [0, 1, 2, 3] rfl
  refine vp_callSi (va_runV (As := [.int 2, .int 0]) (rest := []) ⟨hx, hb, hml, hown, hts⟩ (c_isFair2 l D cI cB cL cZ a0 aM aF aP mo ma mk mb mf fx fr fe pz su 0) (cwV 2 hts gX10_bestPair_X10_isFair rfl rfl rfl (by decide +kernel) ⟨Nat.le_of_ble_eq_true rfl, Nat.le_of_ble_eq_true rfl⟩) ⟨xr_blind, va_recv hK hPc (ci := 10) (q0 := 0) rfl rfl, fun U hU hW => xr_mk hU hW hPc hK⟩ rfl rfl hl.1 rfl (lv_room (Nat.le_of_ble_eq_true rfl)) dX10_bestPair_29 ⟨Nat.le_of_ble_eq_true rfl, Nat.le_of_ble_eq_true rfl⟩).run (fun r_64 hr_64 => ?_)
  clear hPc
  subst hr_64
  refine lv_if_eq (tgt := 58) hx hb dX10_bestPair_32 (by decide) (fun _ => ?_) (fun c_65 => absurd (by decide) c_65)
  refine lv_iinc (v := 13) (lv' := [(3, .int 13), (5, .int 0), (4, .int 2), (2, .int (-1)), (1, .int (-1)), (0, .ref a0)]) hx hb dX10_bestPair_58 hl (k := 2) rfl (by decide) (by decide) rfl (fun ls hl => ?_)
  refine lv_goto (tgt := 6) hx hb dX10_bestPair_61 (by decide) ?_
  refine lv_iload_n hx hb dX10_bestPair_6 rfl (lv_at hl 0 rfl) ?_
  refine lv_bipush (v := 36) hx hb dX10_bestPair_7 (by decide) ?_
  refine lv_icmp_ge (tgt := 64) hx hb dX10_bestPair_9 (by decide) (fun c_66 => absurd c_66 (by decide)) (fun _ => ?_)
  refine lv_iload_n hx hb dX10_bestPair_12 rfl (lv_at hl 0 rfl) ?_
  refine lv_bipush (v := 6) hx hb dX10_bestPair_13 (by decide) ?_
  refine lv_idiv hx hb dX10_bestPair_15 (by decide) ?_
  refine lv_topi (fun y_67 ey_67 => ?_)
  obtain rfl : y_67 = 2 := ey_67.trans (by decide)
  refine lv_istore (lv' := [(4, .int 2), (3, .int 13), (5, .int 0), (2, .int (-1)), (1, .int (-1)), (0, .ref a0)]) hx hb dX10_bestPair_16 hl (by decide) rfl (fun ls hl => ?_)
  refine lv_iload_n hx hb dX10_bestPair_18 rfl (lv_at hl 1 rfl) ?_
  refine lv_bipush (v := 6) hx hb dX10_bestPair_19 (by decide) ?_
  refine lv_irem hx hb dX10_bestPair_21 (by decide) ?_
  refine lv_topi (fun y_68 ey_68 => ?_)
  obtain rfl : y_68 = 1 := ey_68.trans (by decide)
  refine lv_istore (lv' := [(5, .int 1), (4, .int 2), (3, .int 13), (2, .int (-1)), (1, .int (-1)), (0, .ref a0)]) hx hb dX10_bestPair_22 hl (by decide) rfl (fun ls hl => ?_)
  refine lv_aload_n hx hb dX10_bestPair_24 rfl (lv_at hl 5 rfl) ?_
  refine lv_iload hx hb dX10_bestPair_25 (lv_at hl 1 rfl) ?_
  refine lv_iload hx hb dX10_bestPair_27 (lv_at hl 0 rfl) ?_
  have hPc := hP.sub (ws' := [(a0, .inr (10, [.ref aM])), (aM, .inr (3, [.ref aF, .ref mo, .ref ma, .ref mk, .int 0, .int 0, .int 0, .ref mb, .ref mf])), (aF, .inr (0, [.ref aP, .ref fx, .ref fr, .ref fe, .int 0])), (aP, .inr (5, PF pz su))]) [0, 1, 2, 3] rfl
  refine vp_callSi (va_runV (As := [.int 2, .int 1]) (rest := []) ⟨hx, hb, hml, hown, hts⟩ (c_isFair2 l D cI cB cL cZ a0 aM aF aP mo ma mk mb mf fx fr fe pz su 1) (cwV 2 hts gX10_bestPair_X10_isFair rfl rfl rfl (by decide +kernel) ⟨Nat.le_of_ble_eq_true rfl, Nat.le_of_ble_eq_true rfl⟩) ⟨xr_blind, va_recv hK hPc (ci := 10) (q0 := 0) rfl rfl, fun U hU hW => xr_mk hU hW hPc hK⟩ rfl rfl hl.1 rfl (lv_room (Nat.le_of_ble_eq_true rfl)) dX10_bestPair_29 ⟨Nat.le_of_ble_eq_true rfl, Nat.le_of_ble_eq_true rfl⟩).run (fun r_69 hr_69 => ?_)
  clear hPc
  subst hr_69
  refine lv_if_eq (tgt := 58) hx hb dX10_bestPair_32 (by decide) (fun _ => ?_) (fun c_70 => absurd (by decide) c_70)
  refine lv_iinc (v := 14) (lv' := [(3, .int 14), (5, .int 1), (4, .int 2), (2, .int (-1)), (1, .int (-1)), (0, .ref a0)]) hx hb dX10_bestPair_58 hl (k := 2) rfl (by decide) (by decide) rfl (fun ls hl => ?_)
  refine lv_goto (tgt := 6) hx hb dX10_bestPair_61 (by decide) ?_
  refine lv_iload_n hx hb dX10_bestPair_6 rfl (lv_at hl 0 rfl) ?_
  refine lv_bipush (v := 36) hx hb dX10_bestPair_7 (by decide) ?_
  refine lv_icmp_ge (tgt := 64) hx hb dX10_bestPair_9 (by decide) (fun c_71 => absurd c_71 (by decide)) (fun _ => ?_)
  refine lv_iload_n hx hb dX10_bestPair_12 rfl (lv_at hl 0 rfl) ?_
  refine lv_bipush (v := 6) hx hb dX10_bestPair_13 (by decide) ?_
  refine lv_idiv hx hb dX10_bestPair_15 (by decide) ?_
  refine lv_topi (fun y_72 ey_72 => ?_)
  obtain rfl : y_72 = 2 := ey_72.trans (by decide)
  refine lv_istore (lv' := [(4, .int 2), (3, .int 14), (5, .int 1), (2, .int (-1)), (1, .int (-1)), (0, .ref a0)]) hx hb dX10_bestPair_16 hl (by decide) rfl (fun ls hl => ?_)
  refine lv_iload_n hx hb dX10_bestPair_18 rfl (lv_at hl 1 rfl) ?_
  refine lv_bipush (v := 6) hx hb dX10_bestPair_19 (by decide) ?_
  refine lv_irem hx hb dX10_bestPair_21 (by decide) ?_
  refine lv_topi (fun y_73 ey_73 => ?_)
  obtain rfl : y_73 = 2 := ey_73.trans (by decide)
  refine lv_istore (lv' := [(5, .int 2), (4, .int 2), (3, .int 14), (2, .int (-1)), (1, .int (-1)), (0, .ref a0)]) hx hb dX10_bestPair_22 hl (by decide) rfl (fun ls hl => ?_)
  refine lv_aload_n hx hb dX10_bestPair_24 rfl (lv_at hl 5 rfl) ?_
  refine lv_iload hx hb dX10_bestPair_25 (lv_at hl 1 rfl) ?_
  refine lv_iload hx hb dX10_bestPair_27 (lv_at hl 0 rfl) ?_
  have hPc := hP.sub (ws' := [(a0, .inr (10, [.ref aM])), (aM, .inr (3, [.ref aF, .ref mo, .ref ma, .ref mk, .int 0, .int 0, .int 0, .ref mb, .ref mf])), (aF, .inr (0, [.ref aP, .ref fx, .ref fr, .ref fe, .int 0])), (aP, .inr (5, PF pz su))]) [0, 1, 2, 3] rfl
  refine vp_callSi (va_runV (As := [.int 2, .int 2]) (rest := []) ⟨hx, hb, hml, hown, hts⟩ (c_isFair2 l D cI cB cL cZ a0 aM aF aP mo ma mk mb mf fx fr fe pz su 2) (cwV 2 hts gX10_bestPair_X10_isFair rfl rfl rfl (by decide +kernel) ⟨Nat.le_of_ble_eq_true rfl, Nat.le_of_ble_eq_true rfl⟩) ⟨xr_blind, va_recv hK hPc (ci := 10) (q0 := 0) rfl rfl, fun U hU hW => xr_mk hU hW hPc hK⟩ rfl rfl hl.1 rfl (lv_room (Nat.le_of_ble_eq_true rfl)) dX10_bestPair_29 ⟨Nat.le_of_ble_eq_true rfl, Nat.le_of_ble_eq_true rfl⟩).run (fun r_74 hr_74 => ?_)
  clear hPc
  subst hr_74
  refine lv_if_eq (tgt := 58) hx hb dX10_bestPair_32 (by decide) (fun _ => ?_) (fun c_75 => absurd (by decide) c_75)
  refine lv_iinc (v := 15) (lv' := [(3, .int 15), (5, .int 2), (4, .int 2), (2, .int (-1)), (1, .int (-1)), (0, .ref a0)]) hx hb dX10_bestPair_58 hl (k := 2) rfl (by decide) (by decide) rfl (fun ls hl => ?_)
  refine lv_goto (tgt := 6) hx hb dX10_bestPair_61 (by decide) ?_
  refine lv_iload_n hx hb dX10_bestPair_6 rfl (lv_at hl 0 rfl) ?_
  refine lv_bipush (v := 36) hx hb dX10_bestPair_7 (by decide) ?_
  refine lv_icmp_ge (tgt := 64) hx hb dX10_bestPair_9 (by decide) (fun c_76 => absurd c_76 (by decide)) (fun _ => ?_)
  refine lv_iload_n hx hb dX10_bestPair_12 rfl (lv_at hl 0 rfl) ?_
  refine lv_bipush (v := 6) hx hb dX10_bestPair_13 (by decide) ?_
  refine lv_idiv hx hb dX10_bestPair_15 (by decide) ?_
  refine lv_topi (fun y_77 ey_77 => ?_)
  obtain rfl : y_77 = 2 := ey_77.trans (by decide)
  refine lv_istore (lv' := [(4, .int 2), (3, .int 15), (5, .int 2), (2, .int (-1)), (1, .int (-1)), (0, .ref a0)]) hx hb dX10_bestPair_16 hl (by decide) rfl (fun ls hl => ?_)
  refine lv_iload_n hx hb dX10_bestPair_18 rfl (lv_at hl 1 rfl) ?_
  refine lv_bipush (v := 6) hx hb dX10_bestPair_19 (by decide) ?_
  refine lv_irem hx hb dX10_bestPair_21 (by decide) ?_
  refine lv_topi (fun y_78 ey_78 => ?_)
  obtain rfl : y_78 = 3 := ey_78.trans (by decide)
  refine lv_istore (lv' := [(5, .int 3), (4, .int 2), (3, .int 15), (2, .int (-1)), (1, .int (-1)), (0, .ref a0)]) hx hb dX10_bestPair_22 hl (by decide) rfl (fun ls hl => ?_)
  refine lv_aload_n hx hb dX10_bestPair_24 rfl (lv_at hl 5 rfl) ?_
  refine lv_iload hx hb dX10_bestPair_25 (lv_at hl 1 rfl) ?_
  refine lv_iload hx hb dX10_bestPair_27 (lv_at hl 0 rfl) ?_
  have hPc := hP.sub (ws' := [(a0, .inr (10, [.ref aM])), (aM, .inr (3, [.ref aF, .ref mo, .ref ma, .ref mk, .int 0, .int 0, .int 0, .ref mb, .ref mf])), (aF, .inr (0, [.ref aP, .ref fx, .ref fr, .ref fe, .int 0])), (aP, .inr (5, PF pz su))]) [0, 1, 2, 3] rfl
  refine vp_callSi (va_runV (As := [.int 2, .int 3]) (rest := []) ⟨hx, hb, hml, hown, hts⟩ (c_isFair2 l D cI cB cL cZ a0 aM aF aP mo ma mk mb mf fx fr fe pz su 3) (cwV 2 hts gX10_bestPair_X10_isFair rfl rfl rfl (by decide +kernel) ⟨Nat.le_of_ble_eq_true rfl, Nat.le_of_ble_eq_true rfl⟩) ⟨xr_blind, va_recv hK hPc (ci := 10) (q0 := 0) rfl rfl, fun U hU hW => xr_mk hU hW hPc hK⟩ rfl rfl hl.1 rfl (lv_room (Nat.le_of_ble_eq_true rfl)) dX10_bestPair_29 ⟨Nat.le_of_ble_eq_true rfl, Nat.le_of_ble_eq_true rfl⟩).run (fun r_79 hr_79 => ?_)
  clear hPc
  subst hr_79
  refine lv_if_eq (tgt := 58) hx hb dX10_bestPair_32 (by decide) (fun _ => ?_) (fun c_80 => absurd (by decide) c_80)
  refine lv_iinc (v := 16) (lv' := [(3, .int 16), (5, .int 3), (4, .int 2), (2, .int (-1)), (1, .int (-1)), (0, .ref a0)]) hx hb dX10_bestPair_58 hl (k := 2) rfl (by decide) (by decide) rfl (fun ls hl => ?_)
  refine lv_goto (tgt := 6) hx hb dX10_bestPair_61 (by decide) ?_
  refine lv_iload_n hx hb dX10_bestPair_6 rfl (lv_at hl 0 rfl) ?_
  refine lv_bipush (v := 36) hx hb dX10_bestPair_7 (by decide) ?_
  refine lv_icmp_ge (tgt := 64) hx hb dX10_bestPair_9 (by decide) (fun c_81 => absurd c_81 (by decide)) (fun _ => ?_)
  refine lv_iload_n hx hb dX10_bestPair_12 rfl (lv_at hl 0 rfl) ?_
  refine lv_bipush (v := 6) hx hb dX10_bestPair_13 (by decide) ?_
  refine lv_idiv hx hb dX10_bestPair_15 (by decide) ?_
  refine lv_topi (fun y_82 ey_82 => ?_)
  obtain rfl : y_82 = 2 := ey_82.trans (by decide)
  refine lv_istore (lv' := [(4, .int 2), (3, .int 16), (5, .int 3), (2, .int (-1)), (1, .int (-1)), (0, .ref a0)]) hx hb dX10_bestPair_16 hl (by decide) rfl (fun ls hl => ?_)
  refine lv_iload_n hx hb dX10_bestPair_18 rfl (lv_at hl 1 rfl) ?_
  refine lv_bipush (v := 6) hx hb dX10_bestPair_19 (by decide) ?_
  refine lv_irem hx hb dX10_bestPair_21 (by decide) ?_
  refine lv_topi (fun y_83 ey_83 => ?_)
  obtain rfl : y_83 = 4 := ey_83.trans (by decide)
  refine lv_istore (lv' := [(5, .int 4), (4, .int 2), (3, .int 16), (2, .int (-1)), (1, .int (-1)), (0, .ref a0)]) hx hb dX10_bestPair_22 hl (by decide) rfl (fun ls hl => ?_)
  refine lv_aload_n hx hb dX10_bestPair_24 rfl (lv_at hl 5 rfl) ?_
  refine lv_iload hx hb dX10_bestPair_25 (lv_at hl 1 rfl) ?_
  refine lv_iload hx hb dX10_bestPair_27 (lv_at hl 0 rfl) ?_
  have hPc := hP.sub (ws' := [(a0, .inr (10, [.ref aM])), (aM, .inr (3, [.ref aF, .ref mo, .ref ma, .ref mk, .int 0, .int 0, .int 0, .ref mb, .ref mf])), (aF, .inr (0, [.ref aP, .ref fx, .ref fr, .ref fe, .int 0])), (aP, .inr (5, PF pz su))]) [0, 1, 2, 3] rfl
  refine vp_callSi (va_runV (As := [.int 2, .int 4]) (rest := []) ⟨hx, hb, hml, hown, hts⟩ (c_isFair2 l D cI cB cL cZ a0 aM aF aP mo ma mk mb mf fx fr fe pz su 4) (cwV 2 hts gX10_bestPair_X10_isFair rfl rfl rfl (by decide +kernel) ⟨Nat.le_of_ble_eq_true rfl, Nat.le_of_ble_eq_true rfl⟩) ⟨xr_blind, va_recv hK hPc (ci := 10) (q0 := 0) rfl rfl, fun U hU hW => xr_mk hU hW hPc hK⟩ rfl rfl hl.1 rfl (lv_room (Nat.le_of_ble_eq_true rfl)) dX10_bestPair_29 ⟨Nat.le_of_ble_eq_true rfl, Nat.le_of_ble_eq_true rfl⟩).run (fun r_84 hr_84 => ?_)
  clear hPc
  subst hr_84
  refine lv_if_eq (tgt := 58) hx hb dX10_bestPair_32 (by decide) (fun _ => ?_) (fun c_85 => absurd (by decide) c_85)
  refine lv_iinc (v := 17) (lv' := [(3, .int 17), (5, .int 4), (4, .int 2), (2, .int (-1)), (1, .int (-1)), (0, .ref a0)]) hx hb dX10_bestPair_58 hl (k := 2) rfl (by decide) (by decide) rfl (fun ls hl => ?_)
  refine lv_goto (tgt := 6) hx hb dX10_bestPair_61 (by decide) ?_
  refine lv_iload_n hx hb dX10_bestPair_6 rfl (lv_at hl 0 rfl) ?_
  refine lv_bipush (v := 36) hx hb dX10_bestPair_7 (by decide) ?_
  refine lv_icmp_ge (tgt := 64) hx hb dX10_bestPair_9 (by decide) (fun c_86 => absurd c_86 (by decide)) (fun _ => ?_)
  refine lv_iload_n hx hb dX10_bestPair_12 rfl (lv_at hl 0 rfl) ?_
  refine lv_bipush (v := 6) hx hb dX10_bestPair_13 (by decide) ?_
  refine lv_idiv hx hb dX10_bestPair_15 (by decide) ?_
  refine lv_topi (fun y_87 ey_87 => ?_)
  obtain rfl : y_87 = 2 := ey_87.trans (by decide)
  refine lv_istore (lv' := [(4, .int 2), (3, .int 17), (5, .int 4), (2, .int (-1)), (1, .int (-1)), (0, .ref a0)]) hx hb dX10_bestPair_16 hl (by decide) rfl (fun ls hl => ?_)
  refine lv_iload_n hx hb dX10_bestPair_18 rfl (lv_at hl 1 rfl) ?_
  refine lv_bipush (v := 6) hx hb dX10_bestPair_19 (by decide) ?_
  refine lv_irem hx hb dX10_bestPair_21 (by decide) ?_
  refine lv_topi (fun y_88 ey_88 => ?_)
  obtain rfl : y_88 = 5 := ey_88.trans (by decide)
  refine lv_istore (lv' := [(5, .int 5), (4, .int 2), (3, .int 17), (2, .int (-1)), (1, .int (-1)), (0, .ref a0)]) hx hb dX10_bestPair_22 hl (by decide) rfl (fun ls hl => ?_)
  refine lv_aload_n hx hb dX10_bestPair_24 rfl (lv_at hl 5 rfl) ?_
  refine lv_iload hx hb dX10_bestPair_25 (lv_at hl 1 rfl) ?_
  refine lv_iload hx hb dX10_bestPair_27 (lv_at hl 0 rfl) ?_
  have hPc := hP.sub (ws' := [(a0, .inr (10, [.ref aM])), (aM, .inr (3, [.ref aF, .ref mo, .ref ma, .ref mk, .int 0, .int 0, .int 0, .ref mb, .ref mf])), (aF, .inr (0, [.ref aP, .ref fx, .ref fr, .ref fe, .int 0])), (aP, .inr (5, PF pz su))]) [0, 1, 2, 3] rfl
  refine vp_callSi (va_runV (As := [.int 2, .int 5]) (rest := []) ⟨hx, hb, hml, hown, hts⟩ (c_isFair2 l D cI cB cL cZ a0 aM aF aP mo ma mk mb mf fx fr fe pz su 5) (cwV 2 hts gX10_bestPair_X10_isFair rfl rfl rfl (by decide +kernel) ⟨Nat.le_of_ble_eq_true rfl, Nat.le_of_ble_eq_true rfl⟩) ⟨xr_blind, va_recv hK hPc (ci := 10) (q0 := 0) rfl rfl, fun U hU hW => xr_mk hU hW hPc hK⟩ rfl rfl hl.1 rfl (lv_room (Nat.le_of_ble_eq_true rfl)) dX10_bestPair_29 ⟨Nat.le_of_ble_eq_true rfl, Nat.le_of_ble_eq_true rfl⟩).run (fun r_89 hr_89 => ?_)
  clear hPc
  subst hr_89
  refine lv_if_eq (tgt := 58) hx hb dX10_bestPair_32 (by decide) (fun _ => ?_) (fun c_90 => absurd (by decide) c_90)
  refine lv_iinc (v := 18) (lv' := [(3, .int 18), (5, .int 5), (4, .int 2), (2, .int (-1)), (1, .int (-1)), (0, .ref a0)]) hx hb dX10_bestPair_58 hl (k := 2) rfl (by decide) (by decide) rfl (fun ls hl => ?_)
  refine lv_goto (tgt := 6) hx hb dX10_bestPair_61 (by decide) ?_
  refine lv_iload_n hx hb dX10_bestPair_6 rfl (lv_at hl 0 rfl) ?_
  refine lv_bipush (v := 36) hx hb dX10_bestPair_7 (by decide) ?_
  refine lv_icmp_ge (tgt := 64) hx hb dX10_bestPair_9 (by decide) (fun c_91 => absurd c_91 (by decide)) (fun _ => ?_)
  refine lv_iload_n hx hb dX10_bestPair_12 rfl (lv_at hl 0 rfl) ?_
  refine lv_bipush (v := 6) hx hb dX10_bestPair_13 (by decide) ?_
  refine lv_idiv hx hb dX10_bestPair_15 (by decide) ?_
  refine lv_topi (fun y_92 ey_92 => ?_)
  obtain rfl : y_92 = 3 := ey_92.trans (by decide)
  refine lv_istore (lv' := [(4, .int 3), (3, .int 18), (5, .int 5), (2, .int (-1)), (1, .int (-1)), (0, .ref a0)]) hx hb dX10_bestPair_16 hl (by decide) rfl (fun ls hl => ?_)
  refine lv_iload_n hx hb dX10_bestPair_18 rfl (lv_at hl 1 rfl) ?_
  refine lv_bipush (v := 6) hx hb dX10_bestPair_19 (by decide) ?_
  refine lv_irem hx hb dX10_bestPair_21 (by decide) ?_
  refine lv_topi (fun y_93 ey_93 => ?_)
  obtain rfl : y_93 = 0 := ey_93.trans (by decide)
  refine lv_istore (lv' := [(5, .int 0), (4, .int 3), (3, .int 18), (2, .int (-1)), (1, .int (-1)), (0, .ref a0)]) hx hb dX10_bestPair_22 hl (by decide) rfl (fun ls hl => ?_)
  refine lv_aload_n hx hb dX10_bestPair_24 rfl (lv_at hl 5 rfl) ?_
  refine lv_iload hx hb dX10_bestPair_25 (lv_at hl 1 rfl) ?_
  refine lv_iload hx hb dX10_bestPair_27 (lv_at hl 0 rfl) ?_
  have hPc := hP.sub (ws' := [(a0, .inr (10, [.ref aM])), (aM, .inr (3, [.ref aF, .ref mo, .ref ma, .ref mk, .int 0, .int 0, .int 0, .ref mb, .ref mf])), (aF, .inr (0, [.ref aP, .ref fx, .ref fr, .ref fe, .int 0])), (aP, .inr (5, PF pz su))]) [0, 1, 2, 3] rfl
  refine vp_callSi (va_runV (As := [.int 3, .int 0]) (rest := []) ⟨hx, hb, hml, hown, hts⟩ (c_isFair3 l D cI cB cL cZ a0 aM aF aP mo ma mk mb mf fx fr fe pz su 0) (cwV 2 hts gX10_bestPair_X10_isFair rfl rfl rfl (by decide +kernel) ⟨Nat.le_of_ble_eq_true rfl, Nat.le_of_ble_eq_true rfl⟩) ⟨xr_blind, va_recv hK hPc (ci := 10) (q0 := 0) rfl rfl, fun U hU hW => xr_mk hU hW hPc hK⟩ rfl rfl hl.1 rfl (lv_room (Nat.le_of_ble_eq_true rfl)) dX10_bestPair_29 ⟨Nat.le_of_ble_eq_true rfl, Nat.le_of_ble_eq_true rfl⟩).run (fun r_94 hr_94 => ?_)
  clear hPc
  subst hr_94
  refine lv_if_eq (tgt := 58) hx hb dX10_bestPair_32 (by decide) (fun _ => ?_) (fun c_95 => absurd (by decide) c_95)
  refine lv_iinc (v := 19) (lv' := [(3, .int 19), (5, .int 0), (4, .int 3), (2, .int (-1)), (1, .int (-1)), (0, .ref a0)]) hx hb dX10_bestPair_58 hl (k := 2) rfl (by decide) (by decide) rfl (fun ls hl => ?_)
  refine lv_goto (tgt := 6) hx hb dX10_bestPair_61 (by decide) ?_
  refine lv_iload_n hx hb dX10_bestPair_6 rfl (lv_at hl 0 rfl) ?_
  refine lv_bipush (v := 36) hx hb dX10_bestPair_7 (by decide) ?_
  refine lv_icmp_ge (tgt := 64) hx hb dX10_bestPair_9 (by decide) (fun c_96 => absurd c_96 (by decide)) (fun _ => ?_)
  refine lv_iload_n hx hb dX10_bestPair_12 rfl (lv_at hl 0 rfl) ?_
  refine lv_bipush (v := 6) hx hb dX10_bestPair_13 (by decide) ?_
  refine lv_idiv hx hb dX10_bestPair_15 (by decide) ?_
  refine lv_topi (fun y_97 ey_97 => ?_)
  obtain rfl : y_97 = 3 := ey_97.trans (by decide)
  refine lv_istore (lv' := [(4, .int 3), (3, .int 19), (5, .int 0), (2, .int (-1)), (1, .int (-1)), (0, .ref a0)]) hx hb dX10_bestPair_16 hl (by decide) rfl (fun ls hl => ?_)
  refine lv_iload_n hx hb dX10_bestPair_18 rfl (lv_at hl 1 rfl) ?_
  refine lv_bipush (v := 6) hx hb dX10_bestPair_19 (by decide) ?_
  refine lv_irem hx hb dX10_bestPair_21 (by decide) ?_
  refine lv_topi (fun y_98 ey_98 => ?_)
  obtain rfl : y_98 = 1 := ey_98.trans (by decide)
  refine lv_istore (lv' := [(5, .int 1), (4, .int 3), (3, .int 19), (2, .int (-1)), (1, .int (-1)), (0, .ref a0)]) hx hb dX10_bestPair_22 hl (by decide) rfl (fun ls hl => ?_)
  refine lv_aload_n hx hb dX10_bestPair_24 rfl (lv_at hl 5 rfl) ?_
  refine lv_iload hx hb dX10_bestPair_25 (lv_at hl 1 rfl) ?_
  refine lv_iload hx hb dX10_bestPair_27 (lv_at hl 0 rfl) ?_
  have hPc := hP.sub (ws' := [(a0, .inr (10, [.ref aM])), (aM, .inr (3, [.ref aF, .ref mo, .ref ma, .ref mk, .int 0, .int 0, .int 0, .ref mb, .ref mf])), (aF, .inr (0, [.ref aP, .ref fx, .ref fr, .ref fe, .int 0])), (aP, .inr (5, PF pz su))]) [0, 1, 2, 3] rfl
  refine vp_callSi (va_runV (As := [.int 3, .int 1]) (rest := []) ⟨hx, hb, hml, hown, hts⟩ (c_isFair3 l D cI cB cL cZ a0 aM aF aP mo ma mk mb mf fx fr fe pz su 1) (cwV 2 hts gX10_bestPair_X10_isFair rfl rfl rfl (by decide +kernel) ⟨Nat.le_of_ble_eq_true rfl, Nat.le_of_ble_eq_true rfl⟩) ⟨xr_blind, va_recv hK hPc (ci := 10) (q0 := 0) rfl rfl, fun U hU hW => xr_mk hU hW hPc hK⟩ rfl rfl hl.1 rfl (lv_room (Nat.le_of_ble_eq_true rfl)) dX10_bestPair_29 ⟨Nat.le_of_ble_eq_true rfl, Nat.le_of_ble_eq_true rfl⟩).run (fun r_99 hr_99 => ?_)
  clear hPc
  subst hr_99
  refine lv_if_eq (tgt := 58) hx hb dX10_bestPair_32 (by decide) (fun _ => ?_) (fun c_100 => absurd (by decide) c_100)
  refine lv_iinc (v := 20) (lv' := [(3, .int 20), (5, .int 1), (4, .int 3), (2, .int (-1)), (1, .int (-1)), (0, .ref a0)]) hx hb dX10_bestPair_58 hl (k := 2) rfl (by decide) (by decide) rfl (fun ls hl => ?_)
  refine lv_goto (tgt := 6) hx hb dX10_bestPair_61 (by decide) ?_
  refine lv_iload_n hx hb dX10_bestPair_6 rfl (lv_at hl 0 rfl) ?_
  refine lv_bipush (v := 36) hx hb dX10_bestPair_7 (by decide) ?_
  refine lv_icmp_ge (tgt := 64) hx hb dX10_bestPair_9 (by decide) (fun c_101 => absurd c_101 (by decide)) (fun _ => ?_)
  refine lv_iload_n hx hb dX10_bestPair_12 rfl (lv_at hl 0 rfl) ?_
  refine lv_bipush (v := 6) hx hb dX10_bestPair_13 (by decide) ?_
  refine lv_idiv hx hb dX10_bestPair_15 (by decide) ?_
  refine lv_topi (fun y_102 ey_102 => ?_)
  obtain rfl : y_102 = 3 := ey_102.trans (by decide)
  refine lv_istore (lv' := [(4, .int 3), (3, .int 20), (5, .int 1), (2, .int (-1)), (1, .int (-1)), (0, .ref a0)]) hx hb dX10_bestPair_16 hl (by decide) rfl (fun ls hl => ?_)
  refine lv_iload_n hx hb dX10_bestPair_18 rfl (lv_at hl 1 rfl) ?_
  refine lv_bipush (v := 6) hx hb dX10_bestPair_19 (by decide) ?_
  refine lv_irem hx hb dX10_bestPair_21 (by decide) ?_
  refine lv_topi (fun y_103 ey_103 => ?_)
  obtain rfl : y_103 = 2 := ey_103.trans (by decide)
  refine lv_istore (lv' := [(5, .int 2), (4, .int 3), (3, .int 20), (2, .int (-1)), (1, .int (-1)), (0, .ref a0)]) hx hb dX10_bestPair_22 hl (by decide) rfl (fun ls hl => ?_)
  refine lv_aload_n hx hb dX10_bestPair_24 rfl (lv_at hl 5 rfl) ?_
  refine lv_iload hx hb dX10_bestPair_25 (lv_at hl 1 rfl) ?_
  refine lv_iload hx hb dX10_bestPair_27 (lv_at hl 0 rfl) ?_
  have hPc := hP.sub (ws' := [(a0, .inr (10, [.ref aM])), (aM, .inr (3, [.ref aF, .ref mo, .ref ma, .ref mk, .int 0, .int 0, .int 0, .ref mb, .ref mf])), (aF, .inr (0, [.ref aP, .ref fx, .ref fr, .ref fe, .int 0])), (aP, .inr (5, PF pz su))]) [0, 1, 2, 3] rfl
  refine vp_callSi (va_runV (As := [.int 3, .int 2]) (rest := []) ⟨hx, hb, hml, hown, hts⟩ (c_isFair3 l D cI cB cL cZ a0 aM aF aP mo ma mk mb mf fx fr fe pz su 2) (cwV 2 hts gX10_bestPair_X10_isFair rfl rfl rfl (by decide +kernel) ⟨Nat.le_of_ble_eq_true rfl, Nat.le_of_ble_eq_true rfl⟩) ⟨xr_blind, va_recv hK hPc (ci := 10) (q0 := 0) rfl rfl, fun U hU hW => xr_mk hU hW hPc hK⟩ rfl rfl hl.1 rfl (lv_room (Nat.le_of_ble_eq_true rfl)) dX10_bestPair_29 ⟨Nat.le_of_ble_eq_true rfl, Nat.le_of_ble_eq_true rfl⟩).run (fun r_104 hr_104 => ?_)
  clear hPc
  subst hr_104
  refine lv_if_eq (tgt := 58) hx hb dX10_bestPair_32 (by decide) (fun _ => ?_) (fun c_105 => absurd (by decide) c_105)
  refine lv_iinc (v := 21) (lv' := [(3, .int 21), (5, .int 2), (4, .int 3), (2, .int (-1)), (1, .int (-1)), (0, .ref a0)]) hx hb dX10_bestPair_58 hl (k := 2) rfl (by decide) (by decide) rfl (fun ls hl => ?_)
  refine lv_goto (tgt := 6) hx hb dX10_bestPair_61 (by decide) ?_
  refine lv_iload_n hx hb dX10_bestPair_6 rfl (lv_at hl 0 rfl) ?_
  refine lv_bipush (v := 36) hx hb dX10_bestPair_7 (by decide) ?_
  refine lv_icmp_ge (tgt := 64) hx hb dX10_bestPair_9 (by decide) (fun c_106 => absurd c_106 (by decide)) (fun _ => ?_)
  refine lv_iload_n hx hb dX10_bestPair_12 rfl (lv_at hl 0 rfl) ?_
  refine lv_bipush (v := 6) hx hb dX10_bestPair_13 (by decide) ?_
  refine lv_idiv hx hb dX10_bestPair_15 (by decide) ?_
  refine lv_topi (fun y_107 ey_107 => ?_)
  obtain rfl : y_107 = 3 := ey_107.trans (by decide)
  refine lv_istore (lv' := [(4, .int 3), (3, .int 21), (5, .int 2), (2, .int (-1)), (1, .int (-1)), (0, .ref a0)]) hx hb dX10_bestPair_16 hl (by decide) rfl (fun ls hl => ?_)
  refine lv_iload_n hx hb dX10_bestPair_18 rfl (lv_at hl 1 rfl) ?_
  refine lv_bipush (v := 6) hx hb dX10_bestPair_19 (by decide) ?_
  refine lv_irem hx hb dX10_bestPair_21 (by decide) ?_
  refine lv_topi (fun y_108 ey_108 => ?_)
  obtain rfl : y_108 = 3 := ey_108.trans (by decide)
  refine lv_istore (lv' := [(5, .int 3), (4, .int 3), (3, .int 21), (2, .int (-1)), (1, .int (-1)), (0, .ref a0)]) hx hb dX10_bestPair_22 hl (by decide) rfl (fun ls hl => ?_)
  refine lv_aload_n hx hb dX10_bestPair_24 rfl (lv_at hl 5 rfl) ?_
  refine lv_iload hx hb dX10_bestPair_25 (lv_at hl 1 rfl) ?_
  refine lv_iload hx hb dX10_bestPair_27 (lv_at hl 0 rfl) ?_
  have hPc := hP.sub (ws' := [(a0, .inr (10, [.ref aM])), (aM, .inr (3, [.ref aF, .ref mo, .ref ma, .ref mk, .int 0, .int 0, .int 0, .ref mb, .ref mf])), (aF, .inr (0, [.ref aP, .ref fx, .ref fr, .ref fe, .int 0])), (aP, .inr (5, PF pz su))]) [0, 1, 2, 3] rfl
  refine vp_callSi (va_runV (As := [.int 3, .int 3]) (rest := []) ⟨hx, hb, hml, hown, hts⟩ (c_isFair3 l D cI cB cL cZ a0 aM aF aP mo ma mk mb mf fx fr fe pz su 3) (cwV 2 hts gX10_bestPair_X10_isFair rfl rfl rfl (by decide +kernel) ⟨Nat.le_of_ble_eq_true rfl, Nat.le_of_ble_eq_true rfl⟩) ⟨xr_blind, va_recv hK hPc (ci := 10) (q0 := 0) rfl rfl, fun U hU hW => xr_mk hU hW hPc hK⟩ rfl rfl hl.1 rfl (lv_room (Nat.le_of_ble_eq_true rfl)) dX10_bestPair_29 ⟨Nat.le_of_ble_eq_true rfl, Nat.le_of_ble_eq_true rfl⟩).run (fun r_109 hr_109 => ?_)
  clear hPc
  subst hr_109
  refine lv_if_eq (tgt := 58) hx hb dX10_bestPair_32 (by decide) (fun _ => ?_) (fun c_110 => absurd (by decide) c_110)
  refine lv_iinc (v := 22) (lv' := [(3, .int 22), (5, .int 3), (4, .int 3), (2, .int (-1)), (1, .int (-1)), (0, .ref a0)]) hx hb dX10_bestPair_58 hl (k := 2) rfl (by decide) (by decide) rfl (fun ls hl => ?_)
  refine lv_goto (tgt := 6) hx hb dX10_bestPair_61 (by decide) ?_
  refine lv_iload_n hx hb dX10_bestPair_6 rfl (lv_at hl 0 rfl) ?_
  refine lv_bipush (v := 36) hx hb dX10_bestPair_7 (by decide) ?_
  refine lv_icmp_ge (tgt := 64) hx hb dX10_bestPair_9 (by decide) (fun c_111 => absurd c_111 (by decide)) (fun _ => ?_)
  refine lv_iload_n hx hb dX10_bestPair_12 rfl (lv_at hl 0 rfl) ?_
  refine lv_bipush (v := 6) hx hb dX10_bestPair_13 (by decide) ?_
  refine lv_idiv hx hb dX10_bestPair_15 (by decide) ?_
  refine lv_topi (fun y_112 ey_112 => ?_)
  obtain rfl : y_112 = 3 := ey_112.trans (by decide)
  refine lv_istore (lv' := [(4, .int 3), (3, .int 22), (5, .int 3), (2, .int (-1)), (1, .int (-1)), (0, .ref a0)]) hx hb dX10_bestPair_16 hl (by decide) rfl (fun ls hl => ?_)
  refine lv_iload_n hx hb dX10_bestPair_18 rfl (lv_at hl 1 rfl) ?_
  refine lv_bipush (v := 6) hx hb dX10_bestPair_19 (by decide) ?_
  refine lv_irem hx hb dX10_bestPair_21 (by decide) ?_
  refine lv_topi (fun y_113 ey_113 => ?_)
  obtain rfl : y_113 = 4 := ey_113.trans (by decide)
  refine lv_istore (lv' := [(5, .int 4), (4, .int 3), (3, .int 22), (2, .int (-1)), (1, .int (-1)), (0, .ref a0)]) hx hb dX10_bestPair_22 hl (by decide) rfl (fun ls hl => ?_)
  refine lv_aload_n hx hb dX10_bestPair_24 rfl (lv_at hl 5 rfl) ?_
  refine lv_iload hx hb dX10_bestPair_25 (lv_at hl 1 rfl) ?_
  refine lv_iload hx hb dX10_bestPair_27 (lv_at hl 0 rfl) ?_
  have hPc := hP.sub (ws' := [(a0, .inr (10, [.ref aM])), (aM, .inr (3, [.ref aF, .ref mo, .ref ma, .ref mk, .int 0, .int 0, .int 0, .ref mb, .ref mf])), (aF, .inr (0, [.ref aP, .ref fx, .ref fr, .ref fe, .int 0])), (aP, .inr (5, PF pz su))]) [0, 1, 2, 3] rfl
  refine vp_callSi (va_runV (As := [.int 3, .int 4]) (rest := []) ⟨hx, hb, hml, hown, hts⟩ (c_isFair3 l D cI cB cL cZ a0 aM aF aP mo ma mk mb mf fx fr fe pz su 4) (cwV 2 hts gX10_bestPair_X10_isFair rfl rfl rfl (by decide +kernel) ⟨Nat.le_of_ble_eq_true rfl, Nat.le_of_ble_eq_true rfl⟩) ⟨xr_blind, va_recv hK hPc (ci := 10) (q0 := 0) rfl rfl, fun U hU hW => xr_mk hU hW hPc hK⟩ rfl rfl hl.1 rfl (lv_room (Nat.le_of_ble_eq_true rfl)) dX10_bestPair_29 ⟨Nat.le_of_ble_eq_true rfl, Nat.le_of_ble_eq_true rfl⟩).run (fun r_114 hr_114 => ?_)
  clear hPc
  subst hr_114
  refine lv_if_eq (tgt := 58) hx hb dX10_bestPair_32 (by decide) (fun _ => ?_) (fun c_115 => absurd (by decide) c_115)
  refine lv_iinc (v := 23) (lv' := [(3, .int 23), (5, .int 4), (4, .int 3), (2, .int (-1)), (1, .int (-1)), (0, .ref a0)]) hx hb dX10_bestPair_58 hl (k := 2) rfl (by decide) (by decide) rfl (fun ls hl => ?_)
  refine lv_goto (tgt := 6) hx hb dX10_bestPair_61 (by decide) ?_
  refine lv_iload_n hx hb dX10_bestPair_6 rfl (lv_at hl 0 rfl) ?_
  refine lv_bipush (v := 36) hx hb dX10_bestPair_7 (by decide) ?_
  refine lv_icmp_ge (tgt := 64) hx hb dX10_bestPair_9 (by decide) (fun c_116 => absurd c_116 (by decide)) (fun _ => ?_)
  refine lv_iload_n hx hb dX10_bestPair_12 rfl (lv_at hl 0 rfl) ?_
  refine lv_bipush (v := 6) hx hb dX10_bestPair_13 (by decide) ?_
  refine lv_idiv hx hb dX10_bestPair_15 (by decide) ?_
  refine lv_topi (fun y_117 ey_117 => ?_)
  obtain rfl : y_117 = 3 := ey_117.trans (by decide)
  refine lv_istore (lv' := [(4, .int 3), (3, .int 23), (5, .int 4), (2, .int (-1)), (1, .int (-1)), (0, .ref a0)]) hx hb dX10_bestPair_16 hl (by decide) rfl (fun ls hl => ?_)
  refine lv_iload_n hx hb dX10_bestPair_18 rfl (lv_at hl 1 rfl) ?_
  refine lv_bipush (v := 6) hx hb dX10_bestPair_19 (by decide) ?_
  refine lv_irem hx hb dX10_bestPair_21 (by decide) ?_
  refine lv_topi (fun y_118 ey_118 => ?_)
  obtain rfl : y_118 = 5 := ey_118.trans (by decide)
  refine lv_istore (lv' := [(5, .int 5), (4, .int 3), (3, .int 23), (2, .int (-1)), (1, .int (-1)), (0, .ref a0)]) hx hb dX10_bestPair_22 hl (by decide) rfl (fun ls hl => ?_)
  refine lv_aload_n hx hb dX10_bestPair_24 rfl (lv_at hl 5 rfl) ?_
  refine lv_iload hx hb dX10_bestPair_25 (lv_at hl 1 rfl) ?_
  refine lv_iload hx hb dX10_bestPair_27 (lv_at hl 0 rfl) ?_
  have hPc := hP.sub (ws' := [(a0, .inr (10, [.ref aM])), (aM, .inr (3, [.ref aF, .ref mo, .ref ma, .ref mk, .int 0, .int 0, .int 0, .ref mb, .ref mf])), (aF, .inr (0, [.ref aP, .ref fx, .ref fr, .ref fe, .int 0])), (aP, .inr (5, PF pz su))]) [0, 1, 2, 3] rfl
  refine vp_callSi (va_runV (As := [.int 3, .int 5]) (rest := []) ⟨hx, hb, hml, hown, hts⟩ (c_isFair3 l D cI cB cL cZ a0 aM aF aP mo ma mk mb mf fx fr fe pz su 5) (cwV 2 hts gX10_bestPair_X10_isFair rfl rfl rfl (by decide +kernel) ⟨Nat.le_of_ble_eq_true rfl, Nat.le_of_ble_eq_true rfl⟩) ⟨xr_blind, va_recv hK hPc (ci := 10) (q0 := 0) rfl rfl, fun U hU hW => xr_mk hU hW hPc hK⟩ rfl rfl hl.1 rfl (lv_room (Nat.le_of_ble_eq_true rfl)) dX10_bestPair_29 ⟨Nat.le_of_ble_eq_true rfl, Nat.le_of_ble_eq_true rfl⟩).run (fun r_119 hr_119 => ?_)
  clear hPc
  subst hr_119
  refine lv_if_eq (tgt := 58) hx hb dX10_bestPair_32 (by decide) (fun _ => ?_) (fun c_120 => absurd (by decide) c_120)
  refine lv_iinc (v := 24) (lv' := [(3, .int 24), (5, .int 5), (4, .int 3), (2, .int (-1)), (1, .int (-1)), (0, .ref a0)]) hx hb dX10_bestPair_58 hl (k := 2) rfl (by decide) (by decide) rfl (fun ls hl => ?_)
  refine lv_goto (tgt := 6) hx hb dX10_bestPair_61 (by decide) ?_
  refine lv_iload_n hx hb dX10_bestPair_6 rfl (lv_at hl 0 rfl) ?_
  refine lv_bipush (v := 36) hx hb dX10_bestPair_7 (by decide) ?_
  refine lv_icmp_ge (tgt := 64) hx hb dX10_bestPair_9 (by decide) (fun c_121 => absurd c_121 (by decide)) (fun _ => ?_)
  refine lv_iload_n hx hb dX10_bestPair_12 rfl (lv_at hl 0 rfl) ?_
  refine lv_bipush (v := 6) hx hb dX10_bestPair_13 (by decide) ?_
  refine lv_idiv hx hb dX10_bestPair_15 (by decide) ?_
  refine lv_topi (fun y_122 ey_122 => ?_)
  obtain rfl : y_122 = 4 := ey_122.trans (by decide)
  refine lv_istore (lv' := [(4, .int 4), (3, .int 24), (5, .int 5), (2, .int (-1)), (1, .int (-1)), (0, .ref a0)]) hx hb dX10_bestPair_16 hl (by decide) rfl (fun ls hl => ?_)
  refine lv_iload_n hx hb dX10_bestPair_18 rfl (lv_at hl 1 rfl) ?_
  refine lv_bipush (v := 6) hx hb dX10_bestPair_19 (by decide) ?_
  refine lv_irem hx hb dX10_bestPair_21 (by decide) ?_
  refine lv_topi (fun y_123 ey_123 => ?_)
  obtain rfl : y_123 = 0 := ey_123.trans (by decide)
  refine lv_istore (lv' := [(5, .int 0), (4, .int 4), (3, .int 24), (2, .int (-1)), (1, .int (-1)), (0, .ref a0)]) hx hb dX10_bestPair_22 hl (by decide) rfl (fun ls hl => ?_)
  refine lv_aload_n hx hb dX10_bestPair_24 rfl (lv_at hl 5 rfl) ?_
  refine lv_iload hx hb dX10_bestPair_25 (lv_at hl 1 rfl) ?_
  refine lv_iload hx hb dX10_bestPair_27 (lv_at hl 0 rfl) ?_
  have hPc := hP.sub (ws' := [(a0, .inr (10, [.ref aM])), (aM, .inr (3, [.ref aF, .ref mo, .ref ma, .ref mk, .int 0, .int 0, .int 0, .ref mb, .ref mf])), (aF, .inr (0, [.ref aP, .ref fx, .ref fr, .ref fe, .int 0])), (aP, .inr (5, PF pz su))]) [0, 1, 2, 3] rfl
  refine vp_callSi (va_runV (As := [.int 4, .int 0]) (rest := []) ⟨hx, hb, hml, hown, hts⟩ (c_isFair4 l D cI cB cL cZ a0 aM aF aP mo ma mk mb mf fx fr fe pz su 0) (cwV 2 hts gX10_bestPair_X10_isFair rfl rfl rfl (by decide +kernel) ⟨Nat.le_of_ble_eq_true rfl, Nat.le_of_ble_eq_true rfl⟩) ⟨xr_blind, va_recv hK hPc (ci := 10) (q0 := 0) rfl rfl, fun U hU hW => xr_mk hU hW hPc hK⟩ rfl rfl hl.1 rfl (lv_room (Nat.le_of_ble_eq_true rfl)) dX10_bestPair_29 ⟨Nat.le_of_ble_eq_true rfl, Nat.le_of_ble_eq_true rfl⟩).run (fun r_124 hr_124 => ?_)
  clear hPc
  subst hr_124
  refine lv_if_eq (tgt := 58) hx hb dX10_bestPair_32 (by decide) (fun _ => ?_) (fun c_125 => absurd (by decide) c_125)
  refine lv_iinc (v := 25) (lv' := [(3, .int 25), (5, .int 0), (4, .int 4), (2, .int (-1)), (1, .int (-1)), (0, .ref a0)]) hx hb dX10_bestPair_58 hl (k := 2) rfl (by decide) (by decide) rfl (fun ls hl => ?_)
  refine lv_goto (tgt := 6) hx hb dX10_bestPair_61 (by decide) ?_
  refine lv_iload_n hx hb dX10_bestPair_6 rfl (lv_at hl 0 rfl) ?_
  refine lv_bipush (v := 36) hx hb dX10_bestPair_7 (by decide) ?_
  refine lv_icmp_ge (tgt := 64) hx hb dX10_bestPair_9 (by decide) (fun c_126 => absurd c_126 (by decide)) (fun _ => ?_)
  refine lv_iload_n hx hb dX10_bestPair_12 rfl (lv_at hl 0 rfl) ?_
  refine lv_bipush (v := 6) hx hb dX10_bestPair_13 (by decide) ?_
  refine lv_idiv hx hb dX10_bestPair_15 (by decide) ?_
  refine lv_topi (fun y_127 ey_127 => ?_)
  obtain rfl : y_127 = 4 := ey_127.trans (by decide)
  refine lv_istore (lv' := [(4, .int 4), (3, .int 25), (5, .int 0), (2, .int (-1)), (1, .int (-1)), (0, .ref a0)]) hx hb dX10_bestPair_16 hl (by decide) rfl (fun ls hl => ?_)
  refine lv_iload_n hx hb dX10_bestPair_18 rfl (lv_at hl 1 rfl) ?_
  refine lv_bipush (v := 6) hx hb dX10_bestPair_19 (by decide) ?_
  refine lv_irem hx hb dX10_bestPair_21 (by decide) ?_
  refine lv_topi (fun y_128 ey_128 => ?_)
  obtain rfl : y_128 = 1 := ey_128.trans (by decide)
  refine lv_istore (lv' := [(5, .int 1), (4, .int 4), (3, .int 25), (2, .int (-1)), (1, .int (-1)), (0, .ref a0)]) hx hb dX10_bestPair_22 hl (by decide) rfl (fun ls hl => ?_)
  refine lv_aload_n hx hb dX10_bestPair_24 rfl (lv_at hl 5 rfl) ?_
  refine lv_iload hx hb dX10_bestPair_25 (lv_at hl 1 rfl) ?_
  refine lv_iload hx hb dX10_bestPair_27 (lv_at hl 0 rfl) ?_
  have hPc := hP.sub (ws' := [(a0, .inr (10, [.ref aM])), (aM, .inr (3, [.ref aF, .ref mo, .ref ma, .ref mk, .int 0, .int 0, .int 0, .ref mb, .ref mf])), (aF, .inr (0, [.ref aP, .ref fx, .ref fr, .ref fe, .int 0])), (aP, .inr (5, PF pz su))]) [0, 1, 2, 3] rfl
  refine vp_callSi (va_runV (As := [.int 4, .int 1]) (rest := []) ⟨hx, hb, hml, hown, hts⟩ (c_isFair4 l D cI cB cL cZ a0 aM aF aP mo ma mk mb mf fx fr fe pz su 1) (cwV 2 hts gX10_bestPair_X10_isFair rfl rfl rfl (by decide +kernel) ⟨Nat.le_of_ble_eq_true rfl, Nat.le_of_ble_eq_true rfl⟩) ⟨xr_blind, va_recv hK hPc (ci := 10) (q0 := 0) rfl rfl, fun U hU hW => xr_mk hU hW hPc hK⟩ rfl rfl hl.1 rfl (lv_room (Nat.le_of_ble_eq_true rfl)) dX10_bestPair_29 ⟨Nat.le_of_ble_eq_true rfl, Nat.le_of_ble_eq_true rfl⟩).run (fun r_129 hr_129 => ?_)
  clear hPc
  subst hr_129
  refine lv_if_eq (tgt := 58) hx hb dX10_bestPair_32 (by decide) (fun _ => ?_) (fun c_130 => absurd (by decide) c_130)
  refine lv_iinc (v := 26) (lv' := [(3, .int 26), (5, .int 1), (4, .int 4), (2, .int (-1)), (1, .int (-1)), (0, .ref a0)]) hx hb dX10_bestPair_58 hl (k := 2) rfl (by decide) (by decide) rfl (fun ls hl => ?_)
  refine lv_goto (tgt := 6) hx hb dX10_bestPair_61 (by decide) ?_
  refine lv_iload_n hx hb dX10_bestPair_6 rfl (lv_at hl 0 rfl) ?_
  refine lv_bipush (v := 36) hx hb dX10_bestPair_7 (by decide) ?_
  refine lv_icmp_ge (tgt := 64) hx hb dX10_bestPair_9 (by decide) (fun c_131 => absurd c_131 (by decide)) (fun _ => ?_)
  refine lv_iload_n hx hb dX10_bestPair_12 rfl (lv_at hl 0 rfl) ?_
  refine lv_bipush (v := 6) hx hb dX10_bestPair_13 (by decide) ?_
  refine lv_idiv hx hb dX10_bestPair_15 (by decide) ?_
  refine lv_topi (fun y_132 ey_132 => ?_)
  obtain rfl : y_132 = 4 := ey_132.trans (by decide)
  refine lv_istore (lv' := [(4, .int 4), (3, .int 26), (5, .int 1), (2, .int (-1)), (1, .int (-1)), (0, .ref a0)]) hx hb dX10_bestPair_16 hl (by decide) rfl (fun ls hl => ?_)
  refine lv_iload_n hx hb dX10_bestPair_18 rfl (lv_at hl 1 rfl) ?_
  refine lv_bipush (v := 6) hx hb dX10_bestPair_19 (by decide) ?_
  refine lv_irem hx hb dX10_bestPair_21 (by decide) ?_
  refine lv_topi (fun y_133 ey_133 => ?_)
  obtain rfl : y_133 = 2 := ey_133.trans (by decide)
  refine lv_istore (lv' := [(5, .int 2), (4, .int 4), (3, .int 26), (2, .int (-1)), (1, .int (-1)), (0, .ref a0)]) hx hb dX10_bestPair_22 hl (by decide) rfl (fun ls hl => ?_)
  refine lv_aload_n hx hb dX10_bestPair_24 rfl (lv_at hl 5 rfl) ?_
  refine lv_iload hx hb dX10_bestPair_25 (lv_at hl 1 rfl) ?_
  refine lv_iload hx hb dX10_bestPair_27 (lv_at hl 0 rfl) ?_
  have hPc := hP.sub (ws' := [(a0, .inr (10, [.ref aM])), (aM, .inr (3, [.ref aF, .ref mo, .ref ma, .ref mk, .int 0, .int 0, .int 0, .ref mb, .ref mf])), (aF, .inr (0, [.ref aP, .ref fx, .ref fr, .ref fe, .int 0])), (aP, .inr (5, PF pz su))]) [0, 1, 2, 3] rfl
  refine vp_callSi (va_runV (As := [.int 4, .int 2]) (rest := []) ⟨hx, hb, hml, hown, hts⟩ (c_isFair4 l D cI cB cL cZ a0 aM aF aP mo ma mk mb mf fx fr fe pz su 2) (cwV 2 hts gX10_bestPair_X10_isFair rfl rfl rfl (by decide +kernel) ⟨Nat.le_of_ble_eq_true rfl, Nat.le_of_ble_eq_true rfl⟩) ⟨xr_blind, va_recv hK hPc (ci := 10) (q0 := 0) rfl rfl, fun U hU hW => xr_mk hU hW hPc hK⟩ rfl rfl hl.1 rfl (lv_room (Nat.le_of_ble_eq_true rfl)) dX10_bestPair_29 ⟨Nat.le_of_ble_eq_true rfl, Nat.le_of_ble_eq_true rfl⟩).run (fun r_134 hr_134 => ?_)
  clear hPc
  subst hr_134
  refine lv_if_eq (tgt := 58) hx hb dX10_bestPair_32 (by decide) (fun _ => ?_) (fun c_135 => absurd (by decide) c_135)
  refine lv_iinc (v := 27) (lv' := [(3, .int 27), (5, .int 2), (4, .int 4), (2, .int (-1)), (1, .int (-1)), (0, .ref a0)]) hx hb dX10_bestPair_58 hl (k := 2) rfl (by decide) (by decide) rfl (fun ls hl => ?_)
  refine lv_goto (tgt := 6) hx hb dX10_bestPair_61 (by decide) ?_
  refine lv_iload_n hx hb dX10_bestPair_6 rfl (lv_at hl 0 rfl) ?_
  refine lv_bipush (v := 36) hx hb dX10_bestPair_7 (by decide) ?_
  refine lv_icmp_ge (tgt := 64) hx hb dX10_bestPair_9 (by decide) (fun c_136 => absurd c_136 (by decide)) (fun _ => ?_)
  refine lv_iload_n hx hb dX10_bestPair_12 rfl (lv_at hl 0 rfl) ?_
  refine lv_bipush (v := 6) hx hb dX10_bestPair_13 (by decide) ?_
  refine lv_idiv hx hb dX10_bestPair_15 (by decide) ?_
  refine lv_topi (fun y_137 ey_137 => ?_)
  obtain rfl : y_137 = 4 := ey_137.trans (by decide)
  refine lv_istore (lv' := [(4, .int 4), (3, .int 27), (5, .int 2), (2, .int (-1)), (1, .int (-1)), (0, .ref a0)]) hx hb dX10_bestPair_16 hl (by decide) rfl (fun ls hl => ?_)
  refine lv_iload_n hx hb dX10_bestPair_18 rfl (lv_at hl 1 rfl) ?_
  refine lv_bipush (v := 6) hx hb dX10_bestPair_19 (by decide) ?_
  refine lv_irem hx hb dX10_bestPair_21 (by decide) ?_
  refine lv_topi (fun y_138 ey_138 => ?_)
  obtain rfl : y_138 = 3 := ey_138.trans (by decide)
  refine lv_istore (lv' := [(5, .int 3), (4, .int 4), (3, .int 27), (2, .int (-1)), (1, .int (-1)), (0, .ref a0)]) hx hb dX10_bestPair_22 hl (by decide) rfl (fun ls hl => ?_)
  refine lv_aload_n hx hb dX10_bestPair_24 rfl (lv_at hl 5 rfl) ?_
  refine lv_iload hx hb dX10_bestPair_25 (lv_at hl 1 rfl) ?_
  refine lv_iload hx hb dX10_bestPair_27 (lv_at hl 0 rfl) ?_
  have hPc := hP.sub (ws' := [(a0, .inr (10, [.ref aM])), (aM, .inr (3, [.ref aF, .ref mo, .ref ma, .ref mk, .int 0, .int 0, .int 0, .ref mb, .ref mf])), (aF, .inr (0, [.ref aP, .ref fx, .ref fr, .ref fe, .int 0])), (aP, .inr (5, PF pz su))]) [0, 1, 2, 3] rfl
  refine vp_callSi (va_runV (As := [.int 4, .int 3]) (rest := []) ⟨hx, hb, hml, hown, hts⟩ (c_isFair4 l D cI cB cL cZ a0 aM aF aP mo ma mk mb mf fx fr fe pz su 3) (cwV 2 hts gX10_bestPair_X10_isFair rfl rfl rfl (by decide +kernel) ⟨Nat.le_of_ble_eq_true rfl, Nat.le_of_ble_eq_true rfl⟩) ⟨xr_blind, va_recv hK hPc (ci := 10) (q0 := 0) rfl rfl, fun U hU hW => xr_mk hU hW hPc hK⟩ rfl rfl hl.1 rfl (lv_room (Nat.le_of_ble_eq_true rfl)) dX10_bestPair_29 ⟨Nat.le_of_ble_eq_true rfl, Nat.le_of_ble_eq_true rfl⟩).run (fun r_139 hr_139 => ?_)
  clear hPc
  subst hr_139
  refine lv_if_eq (tgt := 58) hx hb dX10_bestPair_32 (by decide) (fun _ => ?_) (fun c_140 => absurd (by decide) c_140)
  refine lv_iinc (v := 28) (lv' := [(3, .int 28), (5, .int 3), (4, .int 4), (2, .int (-1)), (1, .int (-1)), (0, .ref a0)]) hx hb dX10_bestPair_58 hl (k := 2) rfl (by decide) (by decide) rfl (fun ls hl => ?_)
  refine lv_goto (tgt := 6) hx hb dX10_bestPair_61 (by decide) ?_
  refine lv_iload_n hx hb dX10_bestPair_6 rfl (lv_at hl 0 rfl) ?_
  refine lv_bipush (v := 36) hx hb dX10_bestPair_7 (by decide) ?_
  refine lv_icmp_ge (tgt := 64) hx hb dX10_bestPair_9 (by decide) (fun c_141 => absurd c_141 (by decide)) (fun _ => ?_)
  refine lv_iload_n hx hb dX10_bestPair_12 rfl (lv_at hl 0 rfl) ?_
  refine lv_bipush (v := 6) hx hb dX10_bestPair_13 (by decide) ?_
  refine lv_idiv hx hb dX10_bestPair_15 (by decide) ?_
  refine lv_topi (fun y_142 ey_142 => ?_)
  obtain rfl : y_142 = 4 := ey_142.trans (by decide)
  refine lv_istore (lv' := [(4, .int 4), (3, .int 28), (5, .int 3), (2, .int (-1)), (1, .int (-1)), (0, .ref a0)]) hx hb dX10_bestPair_16 hl (by decide) rfl (fun ls hl => ?_)
  refine lv_iload_n hx hb dX10_bestPair_18 rfl (lv_at hl 1 rfl) ?_
  refine lv_bipush (v := 6) hx hb dX10_bestPair_19 (by decide) ?_
  refine lv_irem hx hb dX10_bestPair_21 (by decide) ?_
  refine lv_topi (fun y_143 ey_143 => ?_)
  obtain rfl : y_143 = 4 := ey_143.trans (by decide)
  refine lv_istore (lv' := [(5, .int 4), (4, .int 4), (3, .int 28), (2, .int (-1)), (1, .int (-1)), (0, .ref a0)]) hx hb dX10_bestPair_22 hl (by decide) rfl (fun ls hl => ?_)
  refine lv_aload_n hx hb dX10_bestPair_24 rfl (lv_at hl 5 rfl) ?_
  refine lv_iload hx hb dX10_bestPair_25 (lv_at hl 1 rfl) ?_
  refine lv_iload hx hb dX10_bestPair_27 (lv_at hl 0 rfl) ?_
  have hPc := hP.sub (ws' := [(a0, .inr (10, [.ref aM])), (aM, .inr (3, [.ref aF, .ref mo, .ref ma, .ref mk, .int 0, .int 0, .int 0, .ref mb, .ref mf])), (aF, .inr (0, [.ref aP, .ref fx, .ref fr, .ref fe, .int 0])), (aP, .inr (5, PF pz su))]) [0, 1, 2, 3] rfl
  refine vp_callSi (va_runV (As := [.int 4, .int 4]) (rest := []) ⟨hx, hb, hml, hown, hts⟩ (c_isFair4 l D cI cB cL cZ a0 aM aF aP mo ma mk mb mf fx fr fe pz su 4) (cwV 2 hts gX10_bestPair_X10_isFair rfl rfl rfl (by decide +kernel) ⟨Nat.le_of_ble_eq_true rfl, Nat.le_of_ble_eq_true rfl⟩) ⟨xr_blind, va_recv hK hPc (ci := 10) (q0 := 0) rfl rfl, fun U hU hW => xr_mk hU hW hPc hK⟩ rfl rfl hl.1 rfl (lv_room (Nat.le_of_ble_eq_true rfl)) dX10_bestPair_29 ⟨Nat.le_of_ble_eq_true rfl, Nat.le_of_ble_eq_true rfl⟩).run (fun r_144 hr_144 => ?_)
  clear hPc
  subst hr_144
  refine lv_if_eq (tgt := 58) hx hb dX10_bestPair_32 (by decide) (fun _ => ?_) (fun c_145 => absurd (by decide) c_145)
  refine lv_iinc (v := 29) (lv' := [(3, .int 29), (5, .int 4), (4, .int 4), (2, .int (-1)), (1, .int (-1)), (0, .ref a0)]) hx hb dX10_bestPair_58 hl (k := 2) rfl (by decide) (by decide) rfl (fun ls hl => ?_)
  refine lv_goto (tgt := 6) hx hb dX10_bestPair_61 (by decide) ?_
  refine lv_iload_n hx hb dX10_bestPair_6 rfl (lv_at hl 0 rfl) ?_
  refine lv_bipush (v := 36) hx hb dX10_bestPair_7 (by decide) ?_
  refine lv_icmp_ge (tgt := 64) hx hb dX10_bestPair_9 (by decide) (fun c_146 => absurd c_146 (by decide)) (fun _ => ?_)
  refine lv_iload_n hx hb dX10_bestPair_12 rfl (lv_at hl 0 rfl) ?_
  refine lv_bipush (v := 6) hx hb dX10_bestPair_13 (by decide) ?_
  refine lv_idiv hx hb dX10_bestPair_15 (by decide) ?_
  refine lv_topi (fun y_147 ey_147 => ?_)
  obtain rfl : y_147 = 4 := ey_147.trans (by decide)
  refine lv_istore (lv' := [(4, .int 4), (3, .int 29), (5, .int 4), (2, .int (-1)), (1, .int (-1)), (0, .ref a0)]) hx hb dX10_bestPair_16 hl (by decide) rfl (fun ls hl => ?_)
  refine lv_iload_n hx hb dX10_bestPair_18 rfl (lv_at hl 1 rfl) ?_
  refine lv_bipush (v := 6) hx hb dX10_bestPair_19 (by decide) ?_
  refine lv_irem hx hb dX10_bestPair_21 (by decide) ?_
  refine lv_topi (fun y_148 ey_148 => ?_)
  obtain rfl : y_148 = 5 := ey_148.trans (by decide)
  refine lv_istore (lv' := [(5, .int 5), (4, .int 4), (3, .int 29), (2, .int (-1)), (1, .int (-1)), (0, .ref a0)]) hx hb dX10_bestPair_22 hl (by decide) rfl (fun ls hl => ?_)
  refine lv_aload_n hx hb dX10_bestPair_24 rfl (lv_at hl 5 rfl) ?_
  refine lv_iload hx hb dX10_bestPair_25 (lv_at hl 1 rfl) ?_
  refine lv_iload hx hb dX10_bestPair_27 (lv_at hl 0 rfl) ?_
  have hPc := hP.sub (ws' := [(a0, .inr (10, [.ref aM])), (aM, .inr (3, [.ref aF, .ref mo, .ref ma, .ref mk, .int 0, .int 0, .int 0, .ref mb, .ref mf])), (aF, .inr (0, [.ref aP, .ref fx, .ref fr, .ref fe, .int 0])), (aP, .inr (5, PF pz su))]) [0, 1, 2, 3] rfl
  refine vp_callSi (va_runV (As := [.int 4, .int 5]) (rest := []) ⟨hx, hb, hml, hown, hts⟩ (c_isFair4 l D cI cB cL cZ a0 aM aF aP mo ma mk mb mf fx fr fe pz su 5) (cwV 2 hts gX10_bestPair_X10_isFair rfl rfl rfl (by decide +kernel) ⟨Nat.le_of_ble_eq_true rfl, Nat.le_of_ble_eq_true rfl⟩) ⟨xr_blind, va_recv hK hPc (ci := 10) (q0 := 0) rfl rfl, fun U hU hW => xr_mk hU hW hPc hK⟩ rfl rfl hl.1 rfl (lv_room (Nat.le_of_ble_eq_true rfl)) dX10_bestPair_29 ⟨Nat.le_of_ble_eq_true rfl, Nat.le_of_ble_eq_true rfl⟩).run (fun r_149 hr_149 => ?_)
  clear hPc
  subst hr_149
  refine lv_if_eq (tgt := 58) hx hb dX10_bestPair_32 (by decide) (fun _ => ?_) (fun c_150 => absurd (by decide) c_150)
  refine lv_iinc (v := 30) (lv' := [(3, .int 30), (5, .int 5), (4, .int 4), (2, .int (-1)), (1, .int (-1)), (0, .ref a0)]) hx hb dX10_bestPair_58 hl (k := 2) rfl (by decide) (by decide) rfl (fun ls hl => ?_)
  refine lv_goto (tgt := 6) hx hb dX10_bestPair_61 (by decide) ?_
  refine lv_iload_n hx hb dX10_bestPair_6 rfl (lv_at hl 0 rfl) ?_
  refine lv_bipush (v := 36) hx hb dX10_bestPair_7 (by decide) ?_
  refine lv_icmp_ge (tgt := 64) hx hb dX10_bestPair_9 (by decide) (fun c_151 => absurd c_151 (by decide)) (fun _ => ?_)
  refine lv_iload_n hx hb dX10_bestPair_12 rfl (lv_at hl 0 rfl) ?_
  refine lv_bipush (v := 6) hx hb dX10_bestPair_13 (by decide) ?_
  refine lv_idiv hx hb dX10_bestPair_15 (by decide) ?_
  refine lv_topi (fun y_152 ey_152 => ?_)
  obtain rfl : y_152 = 5 := ey_152.trans (by decide)
  refine lv_istore (lv' := [(4, .int 5), (3, .int 30), (5, .int 5), (2, .int (-1)), (1, .int (-1)), (0, .ref a0)]) hx hb dX10_bestPair_16 hl (by decide) rfl (fun ls hl => ?_)
  refine lv_iload_n hx hb dX10_bestPair_18 rfl (lv_at hl 1 rfl) ?_
  refine lv_bipush (v := 6) hx hb dX10_bestPair_19 (by decide) ?_
  refine lv_irem hx hb dX10_bestPair_21 (by decide) ?_
  refine lv_topi (fun y_153 ey_153 => ?_)
  obtain rfl : y_153 = 0 := ey_153.trans (by decide)
  refine lv_istore (lv' := [(5, .int 0), (4, .int 5), (3, .int 30), (2, .int (-1)), (1, .int (-1)), (0, .ref a0)]) hx hb dX10_bestPair_22 hl (by decide) rfl (fun ls hl => ?_)
  refine lv_aload_n hx hb dX10_bestPair_24 rfl (lv_at hl 5 rfl) ?_
  refine lv_iload hx hb dX10_bestPair_25 (lv_at hl 1 rfl) ?_
  refine lv_iload hx hb dX10_bestPair_27 (lv_at hl 0 rfl) ?_
  have hPc := hP.sub (ws' := [(a0, .inr (10, [.ref aM])), (aM, .inr (3, [.ref aF, .ref mo, .ref ma, .ref mk, .int 0, .int 0, .int 0, .ref mb, .ref mf])), (aF, .inr (0, [.ref aP, .ref fx, .ref fr, .ref fe, .int 0])), (aP, .inr (5, PF pz su))]) [0, 1, 2, 3] rfl
  refine vp_callSi (va_runV (As := [.int 5, .int 0]) (rest := []) ⟨hx, hb, hml, hown, hts⟩ (c_isFair5 l D cI cB cL cZ a0 aM aF aP mo ma mk mb mf fx fr fe pz su 0) (cwV 2 hts gX10_bestPair_X10_isFair rfl rfl rfl (by decide +kernel) ⟨Nat.le_of_ble_eq_true rfl, Nat.le_of_ble_eq_true rfl⟩) ⟨xr_blind, va_recv hK hPc (ci := 10) (q0 := 0) rfl rfl, fun U hU hW => xr_mk hU hW hPc hK⟩ rfl rfl hl.1 rfl (lv_room (Nat.le_of_ble_eq_true rfl)) dX10_bestPair_29 ⟨Nat.le_of_ble_eq_true rfl, Nat.le_of_ble_eq_true rfl⟩).run (fun r_154 hr_154 => ?_)
  clear hPc
  subst hr_154
  refine lv_if_eq (tgt := 58) hx hb dX10_bestPair_32 (by decide) (fun _ => ?_) (fun c_155 => absurd (by decide) c_155)
  refine lv_iinc (v := 31) (lv' := [(3, .int 31), (5, .int 0), (4, .int 5), (2, .int (-1)), (1, .int (-1)), (0, .ref a0)]) hx hb dX10_bestPair_58 hl (k := 2) rfl (by decide) (by decide) rfl (fun ls hl => ?_)
  refine lv_goto (tgt := 6) hx hb dX10_bestPair_61 (by decide) ?_
  refine lv_iload_n hx hb dX10_bestPair_6 rfl (lv_at hl 0 rfl) ?_
  refine lv_bipush (v := 36) hx hb dX10_bestPair_7 (by decide) ?_
  refine lv_icmp_ge (tgt := 64) hx hb dX10_bestPair_9 (by decide) (fun c_156 => absurd c_156 (by decide)) (fun _ => ?_)
  refine lv_iload_n hx hb dX10_bestPair_12 rfl (lv_at hl 0 rfl) ?_
  refine lv_bipush (v := 6) hx hb dX10_bestPair_13 (by decide) ?_
  refine lv_idiv hx hb dX10_bestPair_15 (by decide) ?_
  refine lv_topi (fun y_157 ey_157 => ?_)
  obtain rfl : y_157 = 5 := ey_157.trans (by decide)
  refine lv_istore (lv' := [(4, .int 5), (3, .int 31), (5, .int 0), (2, .int (-1)), (1, .int (-1)), (0, .ref a0)]) hx hb dX10_bestPair_16 hl (by decide) rfl (fun ls hl => ?_)
  refine lv_iload_n hx hb dX10_bestPair_18 rfl (lv_at hl 1 rfl) ?_
  refine lv_bipush (v := 6) hx hb dX10_bestPair_19 (by decide) ?_
  refine lv_irem hx hb dX10_bestPair_21 (by decide) ?_
  refine lv_topi (fun y_158 ey_158 => ?_)
  obtain rfl : y_158 = 1 := ey_158.trans (by decide)
  refine lv_istore (lv' := [(5, .int 1), (4, .int 5), (3, .int 31), (2, .int (-1)), (1, .int (-1)), (0, .ref a0)]) hx hb dX10_bestPair_22 hl (by decide) rfl (fun ls hl => ?_)
  refine lv_aload_n hx hb dX10_bestPair_24 rfl (lv_at hl 5 rfl) ?_
  refine lv_iload hx hb dX10_bestPair_25 (lv_at hl 1 rfl) ?_
  refine lv_iload hx hb dX10_bestPair_27 (lv_at hl 0 rfl) ?_
  have hPc := hP.sub (ws' := [(a0, .inr (10, [.ref aM])), (aM, .inr (3, [.ref aF, .ref mo, .ref ma, .ref mk, .int 0, .int 0, .int 0, .ref mb, .ref mf])), (aF, .inr (0, [.ref aP, .ref fx, .ref fr, .ref fe, .int 0])), (aP, .inr (5, PF pz su))]) [0, 1, 2, 3] rfl
  refine vp_callSi (va_runV (As := [.int 5, .int 1]) (rest := []) ⟨hx, hb, hml, hown, hts⟩ (c_isFair5 l D cI cB cL cZ a0 aM aF aP mo ma mk mb mf fx fr fe pz su 1) (cwV 2 hts gX10_bestPair_X10_isFair rfl rfl rfl (by decide +kernel) ⟨Nat.le_of_ble_eq_true rfl, Nat.le_of_ble_eq_true rfl⟩) ⟨xr_blind, va_recv hK hPc (ci := 10) (q0 := 0) rfl rfl, fun U hU hW => xr_mk hU hW hPc hK⟩ rfl rfl hl.1 rfl (lv_room (Nat.le_of_ble_eq_true rfl)) dX10_bestPair_29 ⟨Nat.le_of_ble_eq_true rfl, Nat.le_of_ble_eq_true rfl⟩).run (fun r_159 hr_159 => ?_)
  clear hPc
  subst hr_159
  refine lv_if_eq (tgt := 58) hx hb dX10_bestPair_32 (by decide) (fun _ => ?_) (fun c_160 => absurd (by decide) c_160)
  refine lv_iinc (v := 32) (lv' := [(3, .int 32), (5, .int 1), (4, .int 5), (2, .int (-1)), (1, .int (-1)), (0, .ref a0)]) hx hb dX10_bestPair_58 hl (k := 2) rfl (by decide) (by decide) rfl (fun ls hl => ?_)
  refine lv_goto (tgt := 6) hx hb dX10_bestPair_61 (by decide) ?_
  refine lv_iload_n hx hb dX10_bestPair_6 rfl (lv_at hl 0 rfl) ?_
  refine lv_bipush (v := 36) hx hb dX10_bestPair_7 (by decide) ?_
  refine lv_icmp_ge (tgt := 64) hx hb dX10_bestPair_9 (by decide) (fun c_161 => absurd c_161 (by decide)) (fun _ => ?_)
  refine lv_iload_n hx hb dX10_bestPair_12 rfl (lv_at hl 0 rfl) ?_
  refine lv_bipush (v := 6) hx hb dX10_bestPair_13 (by decide) ?_
  refine lv_idiv hx hb dX10_bestPair_15 (by decide) ?_
  refine lv_topi (fun y_162 ey_162 => ?_)
  obtain rfl : y_162 = 5 := ey_162.trans (by decide)
  refine lv_istore (lv' := [(4, .int 5), (3, .int 32), (5, .int 1), (2, .int (-1)), (1, .int (-1)), (0, .ref a0)]) hx hb dX10_bestPair_16 hl (by decide) rfl (fun ls hl => ?_)
  refine lv_iload_n hx hb dX10_bestPair_18 rfl (lv_at hl 1 rfl) ?_
  refine lv_bipush (v := 6) hx hb dX10_bestPair_19 (by decide) ?_
  refine lv_irem hx hb dX10_bestPair_21 (by decide) ?_
  refine lv_topi (fun y_163 ey_163 => ?_)
  obtain rfl : y_163 = 2 := ey_163.trans (by decide)
  refine lv_istore (lv' := [(5, .int 2), (4, .int 5), (3, .int 32), (2, .int (-1)), (1, .int (-1)), (0, .ref a0)]) hx hb dX10_bestPair_22 hl (by decide) rfl (fun ls hl => ?_)
  refine lv_aload_n hx hb dX10_bestPair_24 rfl (lv_at hl 5 rfl) ?_
  refine lv_iload hx hb dX10_bestPair_25 (lv_at hl 1 rfl) ?_
  refine lv_iload hx hb dX10_bestPair_27 (lv_at hl 0 rfl) ?_
  have hPc := hP.sub (ws' := [(a0, .inr (10, [.ref aM])), (aM, .inr (3, [.ref aF, .ref mo, .ref ma, .ref mk, .int 0, .int 0, .int 0, .ref mb, .ref mf])), (aF, .inr (0, [.ref aP, .ref fx, .ref fr, .ref fe, .int 0])), (aP, .inr (5, PF pz su))]) [0, 1, 2, 3] rfl
  refine vp_callSi (va_runV (As := [.int 5, .int 2]) (rest := []) ⟨hx, hb, hml, hown, hts⟩ (c_isFair5 l D cI cB cL cZ a0 aM aF aP mo ma mk mb mf fx fr fe pz su 2) (cwV 2 hts gX10_bestPair_X10_isFair rfl rfl rfl (by decide +kernel) ⟨Nat.le_of_ble_eq_true rfl, Nat.le_of_ble_eq_true rfl⟩) ⟨xr_blind, va_recv hK hPc (ci := 10) (q0 := 0) rfl rfl, fun U hU hW => xr_mk hU hW hPc hK⟩ rfl rfl hl.1 rfl (lv_room (Nat.le_of_ble_eq_true rfl)) dX10_bestPair_29 ⟨Nat.le_of_ble_eq_true rfl, Nat.le_of_ble_eq_true rfl⟩).run (fun r_164 hr_164 => ?_)
  clear hPc
  subst hr_164
  refine lv_if_eq (tgt := 58) hx hb dX10_bestPair_32 (by decide) (fun _ => ?_) (fun c_165 => absurd (by decide) c_165)
  refine lv_iinc (v := 33) (lv' := [(3, .int 33), (5, .int 2), (4, .int 5), (2, .int (-1)), (1, .int (-1)), (0, .ref a0)]) hx hb dX10_bestPair_58 hl (k := 2) rfl (by decide) (by decide) rfl (fun ls hl => ?_)
  refine lv_goto (tgt := 6) hx hb dX10_bestPair_61 (by decide) ?_
  refine lv_iload_n hx hb dX10_bestPair_6 rfl (lv_at hl 0 rfl) ?_
  refine lv_bipush (v := 36) hx hb dX10_bestPair_7 (by decide) ?_
  refine lv_icmp_ge (tgt := 64) hx hb dX10_bestPair_9 (by decide) (fun c_166 => absurd c_166 (by decide)) (fun _ => ?_)
  refine lv_iload_n hx hb dX10_bestPair_12 rfl (lv_at hl 0 rfl) ?_
  refine lv_bipush (v := 6) hx hb dX10_bestPair_13 (by decide) ?_
  refine lv_idiv hx hb dX10_bestPair_15 (by decide) ?_
  refine lv_topi (fun y_167 ey_167 => ?_)
  obtain rfl : y_167 = 5 := ey_167.trans (by decide)
  refine lv_istore (lv' := [(4, .int 5), (3, .int 33), (5, .int 2), (2, .int (-1)), (1, .int (-1)), (0, .ref a0)]) hx hb dX10_bestPair_16 hl (by decide) rfl (fun ls hl => ?_)
  refine lv_iload_n hx hb dX10_bestPair_18 rfl (lv_at hl 1 rfl) ?_
  refine lv_bipush (v := 6) hx hb dX10_bestPair_19 (by decide) ?_
  refine lv_irem hx hb dX10_bestPair_21 (by decide) ?_
  refine lv_topi (fun y_168 ey_168 => ?_)
  obtain rfl : y_168 = 3 := ey_168.trans (by decide)
  refine lv_istore (lv' := [(5, .int 3), (4, .int 5), (3, .int 33), (2, .int (-1)), (1, .int (-1)), (0, .ref a0)]) hx hb dX10_bestPair_22 hl (by decide) rfl (fun ls hl => ?_)
  refine lv_aload_n hx hb dX10_bestPair_24 rfl (lv_at hl 5 rfl) ?_
  refine lv_iload hx hb dX10_bestPair_25 (lv_at hl 1 rfl) ?_
  refine lv_iload hx hb dX10_bestPair_27 (lv_at hl 0 rfl) ?_
  have hPc := hP.sub (ws' := [(a0, .inr (10, [.ref aM])), (aM, .inr (3, [.ref aF, .ref mo, .ref ma, .ref mk, .int 0, .int 0, .int 0, .ref mb, .ref mf])), (aF, .inr (0, [.ref aP, .ref fx, .ref fr, .ref fe, .int 0])), (aP, .inr (5, PF pz su))]) [0, 1, 2, 3] rfl
  refine vp_callSi (va_runV (As := [.int 5, .int 3]) (rest := []) ⟨hx, hb, hml, hown, hts⟩ (c_isFair5 l D cI cB cL cZ a0 aM aF aP mo ma mk mb mf fx fr fe pz su 3) (cwV 2 hts gX10_bestPair_X10_isFair rfl rfl rfl (by decide +kernel) ⟨Nat.le_of_ble_eq_true rfl, Nat.le_of_ble_eq_true rfl⟩) ⟨xr_blind, va_recv hK hPc (ci := 10) (q0 := 0) rfl rfl, fun U hU hW => xr_mk hU hW hPc hK⟩ rfl rfl hl.1 rfl (lv_room (Nat.le_of_ble_eq_true rfl)) dX10_bestPair_29 ⟨Nat.le_of_ble_eq_true rfl, Nat.le_of_ble_eq_true rfl⟩).run (fun r_169 hr_169 => ?_)
  clear hPc
  subst hr_169
  refine lv_if_eq (tgt := 58) hx hb dX10_bestPair_32 (by decide) (fun _ => ?_) (fun c_170 => absurd (by decide) c_170)
  refine lv_iinc (v := 34) (lv' := [(3, .int 34), (5, .int 3), (4, .int 5), (2, .int (-1)), (1, .int (-1)), (0, .ref a0)]) hx hb dX10_bestPair_58 hl (k := 2) rfl (by decide) (by decide) rfl (fun ls hl => ?_)
  refine lv_goto (tgt := 6) hx hb dX10_bestPair_61 (by decide) ?_
  refine lv_iload_n hx hb dX10_bestPair_6 rfl (lv_at hl 0 rfl) ?_
  refine lv_bipush (v := 36) hx hb dX10_bestPair_7 (by decide) ?_
  refine lv_icmp_ge (tgt := 64) hx hb dX10_bestPair_9 (by decide) (fun c_171 => absurd c_171 (by decide)) (fun _ => ?_)
  refine lv_iload_n hx hb dX10_bestPair_12 rfl (lv_at hl 0 rfl) ?_
  refine lv_bipush (v := 6) hx hb dX10_bestPair_13 (by decide) ?_
  refine lv_idiv hx hb dX10_bestPair_15 (by decide) ?_
  refine lv_topi (fun y_172 ey_172 => ?_)
  obtain rfl : y_172 = 5 := ey_172.trans (by decide)
  refine lv_istore (lv' := [(4, .int 5), (3, .int 34), (5, .int 3), (2, .int (-1)), (1, .int (-1)), (0, .ref a0)]) hx hb dX10_bestPair_16 hl (by decide) rfl (fun ls hl => ?_)
  refine lv_iload_n hx hb dX10_bestPair_18 rfl (lv_at hl 1 rfl) ?_
  refine lv_bipush (v := 6) hx hb dX10_bestPair_19 (by decide) ?_
  refine lv_irem hx hb dX10_bestPair_21 (by decide) ?_
  refine lv_topi (fun y_173 ey_173 => ?_)
  obtain rfl : y_173 = 4 := ey_173.trans (by decide)
  refine lv_istore (lv' := [(5, .int 4), (4, .int 5), (3, .int 34), (2, .int (-1)), (1, .int (-1)), (0, .ref a0)]) hx hb dX10_bestPair_22 hl (by decide) rfl (fun ls hl => ?_)
  refine lv_aload_n hx hb dX10_bestPair_24 rfl (lv_at hl 5 rfl) ?_
  refine lv_iload hx hb dX10_bestPair_25 (lv_at hl 1 rfl) ?_
  refine lv_iload hx hb dX10_bestPair_27 (lv_at hl 0 rfl) ?_
  have hPc := hP.sub (ws' := [(a0, .inr (10, [.ref aM])), (aM, .inr (3, [.ref aF, .ref mo, .ref ma, .ref mk, .int 0, .int 0, .int 0, .ref mb, .ref mf])), (aF, .inr (0, [.ref aP, .ref fx, .ref fr, .ref fe, .int 0])), (aP, .inr (5, PF pz su))]) [0, 1, 2, 3] rfl
  refine vp_callSi (va_runV (As := [.int 5, .int 4]) (rest := []) ⟨hx, hb, hml, hown, hts⟩ (c_isFair5 l D cI cB cL cZ a0 aM aF aP mo ma mk mb mf fx fr fe pz su 4) (cwV 2 hts gX10_bestPair_X10_isFair rfl rfl rfl (by decide +kernel) ⟨Nat.le_of_ble_eq_true rfl, Nat.le_of_ble_eq_true rfl⟩) ⟨xr_blind, va_recv hK hPc (ci := 10) (q0 := 0) rfl rfl, fun U hU hW => xr_mk hU hW hPc hK⟩ rfl rfl hl.1 rfl (lv_room (Nat.le_of_ble_eq_true rfl)) dX10_bestPair_29 ⟨Nat.le_of_ble_eq_true rfl, Nat.le_of_ble_eq_true rfl⟩).run (fun r_174 hr_174 => ?_)
  clear hPc
  subst hr_174
  refine lv_if_eq (tgt := 58) hx hb dX10_bestPair_32 (by decide) (fun _ => ?_) (fun c_175 => absurd (by decide) c_175)
  refine lv_iinc (v := 35) (lv' := [(3, .int 35), (5, .int 4), (4, .int 5), (2, .int (-1)), (1, .int (-1)), (0, .ref a0)]) hx hb dX10_bestPair_58 hl (k := 2) rfl (by decide) (by decide) rfl (fun ls hl => ?_)
  refine lv_goto (tgt := 6) hx hb dX10_bestPair_61 (by decide) ?_
  refine lv_iload_n hx hb dX10_bestPair_6 rfl (lv_at hl 0 rfl) ?_
  refine lv_bipush (v := 36) hx hb dX10_bestPair_7 (by decide) ?_
  refine lv_icmp_ge (tgt := 64) hx hb dX10_bestPair_9 (by decide) (fun c_176 => absurd c_176 (by decide)) (fun _ => ?_)
  refine lv_iload_n hx hb dX10_bestPair_12 rfl (lv_at hl 0 rfl) ?_
  refine lv_bipush (v := 6) hx hb dX10_bestPair_13 (by decide) ?_
  refine lv_idiv hx hb dX10_bestPair_15 (by decide) ?_
  refine lv_topi (fun y_177 ey_177 => ?_)
  obtain rfl : y_177 = 5 := ey_177.trans (by decide)
  refine lv_istore (lv' := [(4, .int 5), (3, .int 35), (5, .int 4), (2, .int (-1)), (1, .int (-1)), (0, .ref a0)]) hx hb dX10_bestPair_16 hl (by decide) rfl (fun ls hl => ?_)
  refine lv_iload_n hx hb dX10_bestPair_18 rfl (lv_at hl 1 rfl) ?_
  refine lv_bipush (v := 6) hx hb dX10_bestPair_19 (by decide) ?_
  refine lv_irem hx hb dX10_bestPair_21 (by decide) ?_
  refine lv_topi (fun y_178 ey_178 => ?_)
  obtain rfl : y_178 = 5 := ey_178.trans (by decide)
  refine lv_istore (lv' := [(5, .int 5), (4, .int 5), (3, .int 35), (2, .int (-1)), (1, .int (-1)), (0, .ref a0)]) hx hb dX10_bestPair_22 hl (by decide) rfl (fun ls hl => ?_)
  refine lv_aload_n hx hb dX10_bestPair_24 rfl (lv_at hl 5 rfl) ?_
  refine lv_iload hx hb dX10_bestPair_25 (lv_at hl 1 rfl) ?_
  refine lv_iload hx hb dX10_bestPair_27 (lv_at hl 0 rfl) ?_
  have hPc := hP.sub (ws' := [(a0, .inr (10, [.ref aM])), (aM, .inr (3, [.ref aF, .ref mo, .ref ma, .ref mk, .int 0, .int 0, .int 0, .ref mb, .ref mf])), (aF, .inr (0, [.ref aP, .ref fx, .ref fr, .ref fe, .int 0])), (aP, .inr (5, PF pz su))]) [0, 1, 2, 3] rfl
  refine vp_callSi (va_runV (As := [.int 5, .int 5]) (rest := []) ⟨hx, hb, hml, hown, hts⟩ (c_isFair5 l D cI cB cL cZ a0 aM aF aP mo ma mk mb mf fx fr fe pz su 5) (cwV 2 hts gX10_bestPair_X10_isFair rfl rfl rfl (by decide +kernel) ⟨Nat.le_of_ble_eq_true rfl, Nat.le_of_ble_eq_true rfl⟩) ⟨xr_blind, va_recv hK hPc (ci := 10) (q0 := 0) rfl rfl, fun U hU hW => xr_mk hU hW hPc hK⟩ rfl rfl hl.1 rfl (lv_room (Nat.le_of_ble_eq_true rfl)) dX10_bestPair_29 ⟨Nat.le_of_ble_eq_true rfl, Nat.le_of_ble_eq_true rfl⟩).run (fun r_179 hr_179 => ?_)
  clear hPc
  subst hr_179
  refine lv_if_eq (tgt := 58) hx hb dX10_bestPair_32 (by decide) (fun _ => ?_) (fun c_180 => absurd (by decide) c_180)
  refine lv_iinc (v := 36) (lv' := [(3, .int 36), (5, .int 5), (4, .int 5), (2, .int (-1)), (1, .int (-1)), (0, .ref a0)]) hx hb dX10_bestPair_58 hl (k := 2) rfl (by decide) (by decide) rfl (fun ls hl => ?_)
  refine lv_goto (tgt := 6) hx hb dX10_bestPair_61 (by decide) ?_
  refine lv_iload_n hx hb dX10_bestPair_6 rfl (lv_at hl 0 rfl) ?_
  refine lv_bipush (v := 36) hx hb dX10_bestPair_7 (by decide) ?_
  refine lv_icmp_ge (tgt := 64) hx hb dX10_bestPair_9 (by decide) (fun _ => ?_) (fun c_181 => absurd (by decide) c_181)
  refine lv_iload_n hx hb dX10_bestPair_64 rfl (lv_at hl 4 rfl) ?_
  exact W.iret (v := (-1)) hx hb hr (fun t ht hW => ⟨(-1), rfl, rfl, ht⟩) (fun q hq => by cases hq) dX10_bestPair_65
set_option maxHeartbeats 4000000 in
set_option maxRecDepth 100000 in
theorem c_trade (l : Launch) (D : va_G) (cI : ClassId) (cB : ClassId) (cL : ClassId) (cZ : ClassId) (a0 : Nat) (aP : Nat) (aD : Nat) (aT : Nat) (aR : Nat) (aF : Nat) (aU : Nat) (aH : Nat) (aM : Nat) (aW : Nat) (aN : Nat) (mo : Nat) (ma : Nat) (mk : Nat) (mb : Nat) (mf : Nat) (fx : Nat) (fr : Nat) (fe : Nat) (pz : Nat → Nat) (su : Nat) (x : Int32) : Met l yX11_trade wsX11_trade ({ frames := 2, cells := 0, slots := 0, locals := 48 }) (xr D [(cI, .int), (cB, .byte), (cL, .long), (cZ, .boolean)] [(a0, .inr (11, [.ref aP, .ref aD, .ref aT, .ref aR, .ref aF, .ref aU, .ref aH, .ref aM, .ref aW, .ref aN])), (aW, .inr (10, [.ref aM])), (aM, .inr (3, [.ref aF, .ref mo, .ref ma, .ref mk, .int 0, .int 0, .int 0, .ref mb, .ref mf])), (aF, .inr (0, [.ref aP, .ref fx, .ref fr, .ref fe, .int 0])), (aP, .inr (5, PF pz su))] [.ref a0, .int x]) (vp_Si (fun r => r = (-1))) 0 0 (fun _ => False) := by
  refine Met.ofW (cc := cX11_trade) (maxL := 5) (ret := (some .int)) (by decide) rfl ?_
  intro p e s m args below meth c s₁ B hml hv
  obtain ⟨rfl, hP, hK⟩ := hv
  have hx := B.exec
  have hb := B.bytes
  have hr := B.returns
  have hts := atoms_spec (ws := wsX11_trade) B.pre
  have hown : s.vm.findClass RX11 = some m.cls := findClass_of_methodNamed B.named
  have hlocks := B.notSynchronized
  have hl := lv_entry ([.ref a0, .int x]) (n := 5) (Nat.le_of_ble_eq_true rfl)
  rw [lg_entry_eq]
  generalize (lg_sl ([.ref a0, .int x]) ++ List.replicate (5 - (lg_sl ([.ref a0, .int x])).length) Slot.unset).toArray = ls at hl ⊢
  replace hl : lv_has ls 5 [(0, .ref a0), (1, .int x)] := hl
  refine lv_aload_n hx hb dX11_trade_0 rfl (lv_at hl 0 rfl) ?_
  refine va_get (D := D) (ci := 11) (v := .ref aW) (C := RX11) (T := TX11) (N := 10) hx hb hts iw_X11_trade_X11 hown hK hP 0 rfl rfl 8 (by decide) (hts (.fieldLink RX11 72 "SoldHouse" "trader" "LSoldHouse$Trader;") (List.mem_of_getElem? (i := 1) rfl)) (fun _ h9 => h9) rfl dX11_trade_1 ?_
  have hPc := hP.sub (ws' := [(aW, .inr (10, [.ref aM])), (aM, .inr (3, [.ref aF, .ref mo, .ref ma, .ref mk, .int 0, .int 0, .int 0, .ref mb, .ref mf])), (aF, .inr (0, [.ref aP, .ref fx, .ref fr, .ref fe, .int 0])), (aP, .inr (5, PF pz su))]) [1, 2, 3, 4] rfl
  refine vp_callSi (va_runV (As := []) (rest := []) ⟨hx, hb, hml, hown, hts⟩ (c_bestPair l D cI cB cL cZ aW aM aF aP mo ma mk mb mf fx fr fe pz su) (cwV 0 hts gX11_trade_X10_bestPair rfl rfl rfl (by decide +kernel) ⟨Nat.le_of_ble_eq_true rfl, Nat.le_of_ble_eq_true rfl⟩) ⟨xr_blind, va_recv hK hPc (ci := 10) (q0 := 0) rfl rfl, fun U hU hW => xr_mk hU hW hPc hK⟩ rfl rfl hl.1 rfl (lv_room (Nat.le_of_ble_eq_true rfl)) dX11_trade_4 ⟨Nat.le_of_ble_eq_true rfl, Nat.le_of_ble_eq_true rfl⟩).run (fun r_1 hr_1 => ?_)
  clear hPc
  subst hr_1
  refine lv_istore_n (lv' := [(2, .int (-1)), (0, .ref a0), (1, .int x)]) hx hb dX11_trade_7 rfl hl (by decide) rfl (fun ls hl => ?_)
  refine lv_iload_n hx hb dX11_trade_8 rfl (lv_at hl 0 rfl) ?_
  refine lv_iconst (v := (-1)) hx hb dX11_trade_9 (by decide) ?_
  refine lv_icmp_ne (tgt := 15) hx hb dX11_trade_10 (by decide) (fun c_2 => absurd (by decide) c_2) (fun _ => ?_)
  refine lv_iconst (v := (-1)) hx hb dX11_trade_13 (by decide) ?_
  exact W.iret (v := (-1)) hx hb hr (fun t ht hW => ⟨(-1), rfl, rfl, ht⟩) (fun q hq => by cases hq) dX11_trade_14
