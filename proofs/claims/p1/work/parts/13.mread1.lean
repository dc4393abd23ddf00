set_option maxHeartbeats 4000000 in
set_option maxRecDepth 100000 in
theorem m_pieces (l : Launch) (D : va_G) (cI : ClassId) (cB : ClassId) (cL : ClassId) (cZ : ClassId) (a0 : Nat) (ad : Nat → Nat) (v3 : Int32) (v6 : Int32) (v7 : Int32) (v8 : Int32) (v9 : Int32) (v36 : Int32) (v37 : Int32) (v38 : Int32) (v39 : Int32) (v40 : Int32) (v41 : Int32) (vN : Int64) (fR : Nat → Int32) (hf_fR_0 : fR 0 = 0) : Met l yX12_pieces wsX12_pieces ({ frames := 1, cells := 0, slots := 0, locals := 20 }) (xr D [(cI, .int), (cB, .byte), (cL, .long), (cZ, .boolean)] [(a0, .inr (12, MF ad 0 v3 0 (-1) v6 v7 v8 v9 vN 0 v36 v37 v38 v39 v40 v41 0 0 0 0 0)), ((ad 11), .inl (cI, 2, .inl fR))] [.ref a0]) (vp_Si (fun r => r = 0)) 0 0 (fun _ => False) := by
  refine Met.ofW (cc := cX12_pieces) (maxL := 4) (ret := (some .int)) (by decide) rfl ?_
  intro p e s m args below meth c s₁ B hml hv
  obtain ⟨rfl, hP, hK⟩ := hv
  have hx := B.exec
  have hb := B.bytes
  have hr := B.returns
  have hts := atoms_spec (ws := wsX12_pieces) B.pre
  have hown : s.vm.findClass RX12 = some m.cls := findClass_of_methodNamed B.named
  have hlocks := B.notSynchronized
  have hl := lv_entry ([.ref a0]) (n := 4) (Nat.le_of_ble_eq_true rfl)
  rw [lg_entry_eq]
  generalize (lg_sl ([.ref a0]) ++ List.replicate (4 - (lg_sl ([.ref a0])).length) Slot.unset).toArray = ls at hl ⊢
  replace hl : lv_has ls 4 [(0, .ref a0)] := hl
  refine lv_iconst (v := 1) hx hb dX12_pieces_0 (by decide) ?_
  refine lv_aload_n hx hb dX12_pieces_1 rfl (lv_at hl 0 rfl) ?_
  have hPc := hP.sub (ws' := [(a0, .inr (12, MF ad 0 v3 0 (-1) v6 v7 v8 v9 vN 0 v36 v37 v38 v39 v40 v41 0 0 0 0 0)), ((ad 11), .inl (cI, 2, .inl fR))]) [0, 1] rfl
  refine vp_callSi (va_runV (As := []) (rest := [.int 1]) ⟨hx, hb, hml, hown, hts⟩ (m_places l D cI cB cL cZ a0 ad v3 v6 v7 v8 v9 v36 v37 v38 v39 v40 v41 vN fR hf_fR_0) (cwV 0 hts gX12_pieces_X12_places rfl rfl rfl (by decide +kernel) ⟨Nat.le_of_ble_eq_true rfl, Nat.le_of_ble_eq_true rfl⟩) ⟨xr_blind, va_recv hK hPc (ci := 12) (q0 := 0) rfl rfl, fun U hU hW => xr_mk hU hW hPc hK⟩ rfl rfl hl.1 rfl (lv_room (Nat.le_of_ble_eq_true rfl)) dX12_pieces_2 ⟨Nat.le_of_ble_eq_true rfl, Nat.le_of_ble_eq_true rfl⟩).run (fun r_1 hr_1 => ?_)
  clear hPc
  subst hr_1
  refine lv_ishl hx hb dX12_pieces_5 ?_
  refine lv_topi (fun y_2 ey_2 => ?_)
  obtain rfl : y_2 = 1 := ey_2.trans (by decide)
  refine lv_iconst (v := 1) hx hb dX12_pieces_6 (by decide) ?_
  refine lv_isub hx hb dX12_pieces_7 ?_
  refine lv_topi (fun y_3 ey_3 => ?_)
  obtain rfl : y_3 = 0 := ey_3.trans (by decide)
  refine lv_istore_n (lv' := [(1, .int 0), (0, .ref a0)]) hx hb dX12_pieces_8 rfl hl (by decide) rfl (fun ls hl => ?_)
  refine lv_iconst (v := 0) hx hb dX12_pieces_9 (by decide) ?_
  refine lv_istore_n (lv' := [(2, .int 0), (1, .int 0), (0, .ref a0)]) hx hb dX12_pieces_10 rfl hl (by decide) rfl (fun ls hl => ?_)
  refine lv_iconst (v := 0) hx hb dX12_pieces_11 (by decide) ?_
  refine lv_istore_n (lv' := [(3, .int 0), (2, .int 0), (1, .int 0), (0, .ref a0)]) hx hb dX12_pieces_12 rfl hl (by decide) rfl (fun ls hl => ?_)
  refine lv_iload_n hx hb dX12_pieces_13 rfl (lv_at hl 0 rfl) ?_
  refine lv_aload_n hx hb dX12_pieces_14 rfl (lv_at hl 3 rfl) ?_
  have hPc := hP.sub (ws' := [(a0, .inr (12, MF ad 0 v3 0 (-1) v6 v7 v8 v9 vN 0 v36 v37 v38 v39 v40 v41 0 0 0 0 0)), ((ad 11), .inl (cI, 2, .inl fR))]) [0, 1] rfl
  refine vp_callSi (va_runV (As := []) (rest := [.int 0]) ⟨hx, hb, hml, hown, hts⟩ (m_places l D cI cB cL cZ a0 ad v3 v6 v7 v8 v9 v36 v37 v38 v39 v40 v41 vN fR hf_fR_0) (cwV 0 hts gX12_pieces_X12_places rfl rfl rfl (by decide +kernel) ⟨Nat.le_of_ble_eq_true rfl, Nat.le_of_ble_eq_true rfl⟩) ⟨xr_blind, va_recv hK hPc (ci := 12) (q0 := 0) rfl rfl, fun U hU hW => xr_mk hU hW hPc hK⟩ rfl rfl hl.1 rfl (lv_room (Nat.le_of_ble_eq_true rfl)) dX12_pieces_15 ⟨Nat.le_of_ble_eq_true rfl, Nat.le_of_ble_eq_true rfl⟩).run (fun r_4 hr_4 => ?_)
  clear hPc
  subst hr_4
  refine lv_icmp_ge (tgt := 52) hx hb dX12_pieces_18 (by decide) (fun _ => ?_) (fun c_5 => absurd (by decide) c_5)
  refine lv_iload_n hx hb dX12_pieces_52 rfl (lv_at hl 1 rfl) ?_
  exact W.iret (v := 0) hx hb hr (fun t ht hW => ⟨0, rfl, rfl, ht⟩) (fun q hq => by cases hq) dX12_pieces_53
set_option maxHeartbeats 4000000 in
set_option maxRecDepth 100000 in
theorem m_parts (l : Launch) (D : va_G) (cI : ClassId) (cB : ClassId) (cL : ClassId) (cZ : ClassId) (a0 : Nat) (ad : Nat → Nat) (v3 : Int32) (v6 : Int32) (v7 : Int32) (v8 : Int32) (v9 : Int32) (v36 : Int32) (v37 : Int32) (v38 : Int32) (v39 : Int32) (v40 : Int32) (v41 : Int32) (vN : Int64) (fD : Nat → Int32) (hf_fD_0 : fD 0 = 0) : Met l yX12_parts wsX12_parts ({ frames := 0, cells := 0, slots := 0, locals := 0 }) (xr D [(cI, .int), (cB, .byte), (cL, .long), (cZ, .boolean)] [(a0, .inr (12, MF ad 0 v3 0 (-1) v6 v7 v8 v9 vN 0 v36 v37 v38 v39 v40 v41 0 0 0 0 0)), ((ad 12), .inl (cI, 2, .inl fD))] [.ref a0]) (vp_Si (fun r => r = 0)) 0 0 (fun _ => False) := by
  refine Met.ofW (cc := cX12_parts) (maxL := 3) (ret := (some .int)) (by decide) rfl ?_
  intro p e s m args below meth c s₁ B hml hv
  obtain ⟨rfl, hP, hK⟩ := hv
  have hx := B.exec
  have hb := B.bytes
  have hr := B.returns
  have hts := atoms_spec (ws := wsX12_parts) B.pre
  have hown : s.vm.findClass RX12 = some m.cls := findClass_of_methodNamed B.named
  have hlocks := B.notSynchronized
  have hl := lv_entry ([.ref a0]) (n := 3) (Nat.le_of_ble_eq_true rfl)
  rw [lg_entry_eq]
  generalize (lg_sl ([.ref a0]) ++ List.replicate (3 - (lg_sl ([.ref a0])).length) Slot.unset).toArray = ls at hl ⊢
  replace hl : lv_has ls 3 [(0, .ref a0)] := hl
  refine lv_iconst (v := 0) hx hb dX12_parts_0 (by decide) ?_
  refine lv_istore_n (lv' := [(1, .int 0), (0, .ref a0)]) hx hb dX12_parts_1 rfl hl (by decide) rfl (fun ls hl => ?_)
  refine lv_iconst (v := 0) hx hb dX12_parts_2 (by decide) ?_
  refine lv_istore_n (lv' := [(2, .int 0), (1, .int 0), (0, .ref a0)]) hx hb dX12_parts_3 rfl hl (by decide) rfl (fun ls hl => ?_)
  refine lv_iload_n hx hb dX12_parts_4 rfl (lv_at hl 0 rfl) ?_
  refine lv_aload_n hx hb dX12_parts_5 rfl (lv_at hl 2 rfl) ?_
  refine va_get (D := D) (ci := 12) (v := .ref (ad 12)) (C := RX12) (T := TX12) (N := 71) hx hb hts iw_X12_parts_X12 hown hK hP 0 rfl rfl 12 (by decide) (hts (.fieldLink RX12 24 "SoldHouseModel" "doors" "[I") (List.mem_of_getElem? (i := 1) rfl)) (fun _ h9 => h9) rfl dX12_parts_6 ?_
  refine lv_aload_n hx hb dX12_parts_9 rfl (lv_at hl 2 rfl) ?_
  refine va_get (D := D) (ci := 12) (v := .int 0) (C := RX12) (T := TX12) (N := 71) hx hb hts iw_X12_parts_X12 hown hK hP 0 rfl rfl 35 (by decide) (hts (.fieldLink RX12 280 "SoldHouseModel" "bank" "I") (List.mem_of_getElem? (i := 2) rfl)) (fun _ h9 => h9) rfl dX12_parts_10 ?_
  refine va_iald hx hb hK hP 1 0 rfl rfl (show vp_in 0 2 from (by decide : ¬ ((0 : Int32) < 0 ∨ 2 ≤ Int32.toNatClampNeg 0))) dX12_parts_13 ?_
  refine lv_topi (fun y_1 ey_1 => ?_)
  obtain rfl : y_1 = 0 := ey_1.trans hf_fD_0
  refine lv_icmp_ge (tgt := 37) hx hb dX12_parts_14 (by decide) (fun _ => ?_) (fun c_2 => absurd (by decide) c_2)
  refine lv_iload_n hx hb dX12_parts_37 rfl (lv_at hl 1 rfl) ?_
  exact W.iret (v := 0) hx hb hr (fun t ht hW => ⟨0, rfl, rfl, ht⟩) (fun q hq => by cases hq) dX12_parts_38
set_option maxHeartbeats 4000000 in
set_option maxRecDepth 100000 in
theorem m_hunt (l : Launch) (D : va_G) (cI : ClassId) (cB : ClassId) (cL : ClassId) (cZ : ClassId) (a0 : Nat) (ad : Nat → Nat) (v3 : Int32) (v6 : Int32) (v7 : Int32) (v8 : Int32) (v9 : Int32) (v36 : Int32) (v37 : Int32) (v38 : Int32) (v39 : Int32) (v40 : Int32) (v41 : Int32) (vN : Int64) (fR : Nat → Int32) (x : Int32) (hf_fR_0 : fR 0 = 0) : Met l yX12_hunt wsX12_hunt ({ frames := 2, cells := 0, slots := 0, locals := 43 }) (xr D [(cI, .int), (cB, .byte), (cL, .long), (cZ, .boolean)] [(a0, .inr (12, MF ad 0 v3 0 (-1) v6 v7 v8 v9 vN 0 v36 v37 v38 v39 v40 v41 0 0 0 0 0)), ((ad 11), .inl (cI, 2, .inl fR))] [.ref a0, .int x]) (vp_Si (fun r => r = (-1))) 0 0 (fun _ => False) := by
  refine Met.ofW (cc := cX12_hunt) (maxL := 2) (ret := (some .int)) (by decide) rfl ?_
  intro p e s m args below meth c s₁ B hml hv
  obtain ⟨rfl, hP, hK⟩ := hv
  have hx := B.exec
  have hb := B.bytes
  have hr := B.returns
  have hts := atoms_spec (ws := wsX12_hunt) B.pre
  have hown : s.vm.findClass RX12 = some m.cls := findClass_of_methodNamed B.named
  have hlocks := B.notSynchronized
  have hl := lv_entry ([.ref a0, .int x]) (n := 2) (Nat.le_of_ble_eq_true rfl)
  rw [lg_entry_eq]
  generalize (lg_sl ([.ref a0, .int x]) ++ List.replicate (2 - (lg_sl ([.ref a0, .int x])).length) Slot.unset).toArray = ls at hl ⊢
  replace hl : lv_has ls 2 [(0, .ref a0), (1, .int x)] := hl
  refine lv_aload_n hx hb dX12_hunt_0 rfl (lv_at hl 0 rfl) ?_
  refine lv_iload_n hx hb dX12_hunt_1 rfl (lv_at hl 1 rfl) ?_
  have hPc := hP.sub (ws' := [(a0, .inr (12, MF ad 0 v3 0 (-1) v6 v7 v8 v9 vN 0 v36 v37 v38 v39 v40 v41 0 0 0 0 0)), ((ad 11), .inl (cI, 2, .inl fR))]) [0, 1] rfl
  refine vp_callSi (va_runV (As := [.int x]) (rest := []) ⟨hx, hb, hml, hown, hts⟩ (m_isSet l D cI cB cL cZ a0 ad v3 v6 v7 v8 v9 v36 v37 v38 v39 v40 v41 vN fR x hf_fR_0) (cwV 1 hts gX12_hunt_X12_isSet rfl rfl rfl (by decide +kernel) ⟨Nat.le_of_ble_eq_true rfl, Nat.le_of_ble_eq_true rfl⟩) ⟨xr_blind, va_recv hK hPc (ci := 12) (q0 := 0) rfl rfl, fun U hU hW => xr_mk hU hW hPc hK⟩ rfl rfl hl.1 rfl (lv_room (Nat.le_of_ble_eq_true rfl)) dX12_hunt_2 ⟨Nat.le_of_ble_eq_true rfl, Nat.le_of_ble_eq_true rfl⟩).run (fun r_1 hr_1 => ?_)
  clear hPc
  rcases hr_1 with ⟨rfl, hr_1_0, hr_1_1⟩ | ⟨rfl, hr_1_0⟩ | ⟨rfl, hr_1_0, hr_1_1⟩
  · refine lv_if_eq (tgt := 12) hx hb dX12_hunt_5 (by decide) (fun c_2 => absurd c_2 (by decide)) (fun _ => ?_)
    refine lv_iload_n hx hb dX12_hunt_8 rfl (lv_at hl 1 rfl) ?_
    refine lv_if_ne (tgt := 14) hx hb dX12_hunt_9 (by decide) (fun c_3 => ?_) (fun c_3 => ?_)
    · exact (c_3 (zz_pin hr_1_0 hr_1_1)).elim
    · obtain rfl : x = 0 := c_3
      refine lv_iconst (v := (-1)) hx hb dX12_hunt_12 (by decide) ?_
      exact W.iret (v := (-1)) hx hb hr (fun t ht hW => ⟨(-1), rfl, rfl, ht⟩) (fun q hq => by cases hq) dX12_hunt_13
  · refine lv_if_eq (tgt := 12) hx hb dX12_hunt_5 (by decide) (fun _ => ?_) (fun c_4 => absurd (by decide) c_4)
    refine lv_iconst (v := (-1)) hx hb dX12_hunt_12 (by decide) ?_
    exact W.iret (v := (-1)) hx hb hr (fun t ht hW => ⟨(-1), rfl, rfl, ht⟩) (fun q hq => by cases hq) dX12_hunt_13
  · refine lv_if_eq (tgt := 12) hx hb dX12_hunt_5 (by decide) (fun _ => ?_) (fun c_5 => absurd (by decide) c_5)
    refine lv_iconst (v := (-1)) hx hb dX12_hunt_12 (by decide) ?_
    exact W.iret (v := (-1)) hx hb hr (fun t ht hW => ⟨(-1), rfl, rfl, ht⟩) (fun q hq => by cases hq) dX12_hunt_13
set_option maxHeartbeats 4000000 in
set_option maxRecDepth 100000 in
theorem m_first (l : Launch) (D : va_G) (cI : ClassId) (cB : ClassId) (cL : ClassId) (cZ : ClassId) (a0 : Nat) (ad : Nat → Nat) (v3 : Int32) (v6 : Int32) (v7 : Int32) (v8 : Int32) (v9 : Int32) (v36 : Int32) (v37 : Int32) (v38 : Int32) (v39 : Int32) (v40 : Int32) (v41 : Int32) (vN : Int64) (fR : Nat → Int32) (x : Int32) (hf_fR_0 : fR 0 = 0) : Met l yX12_first wsX12_first ({ frames := 2, cells := 0, slots := 0, locals := 43 }) (xr D [(cI, .int), (cB, .byte), (cL, .long), (cZ, .boolean)] [(a0, .inr (12, MF ad 0 v3 0 (-1) v6 v7 v8 v9 vN 0 v36 v37 v38 v39 v40 v41 0 0 0 0 0)), ((ad 11), .inl (cI, 2, .inl fR))] [.ref a0, .int x]) (vp_Si (fun r => r = (-1))) 0 0 (fun _ => False) := by
  refine Met.ofW (cc := cX12_first) (maxL := 2) (ret := (some .int)) (by decide) rfl ?_
  intro p e s m args below meth c s₁ B hml hv
  obtain ⟨rfl, hP, hK⟩ := hv
  have hx := B.exec
  have hb := B.bytes
  have hr := B.returns
  have hts := atoms_spec (ws := wsX12_first) B.pre
  have hown : s.vm.findClass RX12 = some m.cls := findClass_of_methodNamed B.named
  have hlocks := B.notSynchronized
  have hl := lv_entry ([.ref a0, .int x]) (n := 2) (Nat.le_of_ble_eq_true rfl)
  rw [lg_entry_eq]
  generalize (lg_sl ([.ref a0, .int x]) ++ List.replicate (2 - (lg_sl ([.ref a0, .int x])).length) Slot.unset).toArray = ls at hl ⊢
  replace hl : lv_has ls 2 [(0, .ref a0), (1, .int x)] := hl
  refine lv_aload_n hx hb dX12_first_0 rfl (lv_at hl 0 rfl) ?_
  refine lv_iload_n hx hb dX12_first_1 rfl (lv_at hl 1 rfl) ?_
  have hPc := hP.sub (ws' := [(a0, .inr (12, MF ad 0 v3 0 (-1) v6 v7 v8 v9 vN 0 v36 v37 v38 v39 v40 v41 0 0 0 0 0)), ((ad 11), .inl (cI, 2, .inl fR))]) [0, 1] rfl
  refine vp_callSi (va_runV (As := [.int x]) (rest := []) ⟨hx, hb, hml, hown, hts⟩ (m_isSet l D cI cB cL cZ a0 ad v3 v6 v7 v8 v9 v36 v37 v38 v39 v40 v41 vN fR x hf_fR_0) (cwV 1 hts gX12_first_X12_isSet rfl rfl rfl (by decide +kernel) ⟨Nat.le_of_ble_eq_true rfl, Nat.le_of_ble_eq_true rfl⟩) ⟨xr_blind, va_recv hK hPc (ci := 12) (q0 := 0) rfl rfl, fun U hU hW => xr_mk hU hW hPc hK⟩ rfl rfl hl.1 rfl (lv_room (Nat.le_of_ble_eq_true rfl)) dX12_first_2 ⟨Nat.le_of_ble_eq_true rfl, Nat.le_of_ble_eq_true rfl⟩).run (fun r_1 hr_1 => ?_)
  clear hPc
  rcases hr_1 with ⟨rfl, hr_1_0, hr_1_1⟩ | ⟨rfl, hr_1_0⟩ | ⟨rfl, hr_1_0, hr_1_1⟩
  · refine lv_if_eq (tgt := 12) hx hb dX12_first_5 (by decide) (fun c_2 => absurd c_2 (by decide)) (fun _ => ?_)
    refine lv_iload_n hx hb dX12_first_8 rfl (lv_at hl 1 rfl) ?_
    refine lv_if_ne (tgt := 14) hx hb dX12_first_9 (by decide) (fun c_3 => ?_) (fun c_3 => ?_)
    · exact (c_3 (zz_pin hr_1_0 hr_1_1)).elim
    · obtain rfl : x = 0 := c_3
      refine lv_iconst (v := (-1)) hx hb dX12_first_12 (by decide) ?_
      exact W.iret (v := (-1)) hx hb hr (fun t ht hW => ⟨(-1), rfl, rfl, ht⟩) (fun q hq => by cases hq) dX12_first_13
  · refine lv_if_eq (tgt := 12) hx hb dX12_first_5 (by decide) (fun _ => ?_) (fun c_4 => absurd (by decide) c_4)
    refine lv_iconst (v := (-1)) hx hb dX12_first_12 (by decide) ?_
    exact W.iret (v := (-1)) hx hb hr (fun t ht hW => ⟨(-1), rfl, rfl, ht⟩) (fun q hq => by cases hq) dX12_first_13
  · refine lv_if_eq (tgt := 12) hx hb dX12_first_5 (by decide) (fun _ => ?_) (fun c_5 => absurd (by decide) c_5)
    refine lv_iconst (v := (-1)) hx hb dX12_first_12 (by decide) ?_
    exact W.iret (v := (-1)) hx hb hr (fun t ht hW => ⟨(-1), rfl, rfl, ht⟩) (fun q hq => by cases hq) dX12_first_13
set_option maxHeartbeats 4000000 in
set_option maxRecDepth 100000 in
theorem m_meet (l : Launch) (D : va_G) (cI : ClassId) (cB : ClassId) (cL : ClassId) (cZ : ClassId) (a0 : Nat) (ad : Nat → Nat) (v3 : Int32) (v6 : Int32) (v7 : Int32) (v8 : Int32) (v9 : Int32) (v36 : Int32) (v37 : Int32) (v38 : Int32) (v39 : Int32) (v40 : Int32) (v41 : Int32) (vN : Int64) (fR : Nat → Int32) (x : Int32) (y : Int32) (z : Int32) (hf_fR_0 : fR 0 = 0) : Met l yX12_meet wsX12_meet ({ frames := 3, cells := 0, slots := 0, locals := 65 }) (xr D [(cI, .int), (cB, .byte), (cL, .long), (cZ, .boolean)] [(a0, .inr (12, MF ad 0 v3 0 (-1) v6 v7 v8 v9 vN 0 v36 v37 v38 v39 v40 v41 0 0 0 0 0)), ((ad 11), .inl (cI, 2, .inl fR))] [.ref a0, .int x, .int y, .int z]) (vp_Si (fun r => r = (-1))) 0 0 (fun _ => False) := by
  refine Met.ofW (cc := cX12_meet) (maxL := 8) (ret := (some .int)) (by decide) rfl ?_
  intro p e s m args below meth c s₁ B hml hv
  obtain ⟨rfl, hP, hK⟩ := hv
  have hx := B.exec
  have hb := B.bytes
  have hr := B.returns
  have hts := atoms_spec (ws := wsX12_meet) B.pre
  have hown : s.vm.findClass RX12 = some m.cls := findClass_of_methodNamed B.named
  have hlocks := B.notSynchronized
  have hl := lv_entry ([.ref a0, .int x, .int y, .int z]) (n := 8) (Nat.le_of_ble_eq_true rfl)
  rw [lg_entry_eq]
  generalize (lg_sl ([.ref a0, .int x, .int y, .int z]) ++ List.replicate (8 - (lg_sl ([.ref a0, .int x, .int y, .int z])).length) Slot.unset).toArray = ls at hl ⊢
  replace hl : lv_has ls 8 [(0, .ref a0), (1, .int x), (2, .int y), (3, .int z)] := hl
  refine lv_aload_n hx hb dX12_meet_0 rfl (lv_at hl 0 rfl) ?_
  refine lv_iload_n hx hb dX12_meet_1 rfl (lv_at hl 1 rfl) ?_
  refine lv_iload_n hx hb dX12_meet_2 rfl (lv_at hl 2 rfl) ?_
  have hPc := hP.sub (ws' := [(a0, .inr (12, MF ad 0 v3 0 (-1) v6 v7 v8 v9 vN 0 v36 v37 v38 v39 v40 v41 0 0 0 0 0)), ((ad 11), .inl (cI, 2, .inl fR))]) [0, 1] rfl
  refine vp_callSi (va_runV (As := [.int x, .int y]) (rest := []) ⟨hx, hb, hml, hown, hts⟩ (m_areRooms l D cI cB cL cZ a0 ad v3 v6 v7 v8 v9 v36 v37 v38 v39 v40 v41 vN fR x y hf_fR_0) (cwV 2 hts gX12_meet_X12_areRooms rfl rfl rfl (by decide +kernel) ⟨Nat.le_of_ble_eq_true rfl, Nat.le_of_ble_eq_true rfl⟩) ⟨xr_blind, va_recv hK hPc (ci := 12) (q0 := 0) rfl rfl, fun U hU hW => xr_mk hU hW hPc hK⟩ rfl rfl hl.1 rfl (lv_room (Nat.le_of_ble_eq_true rfl)) dX12_meet_3 ⟨Nat.le_of_ble_eq_true rfl, Nat.le_of_ble_eq_true rfl⟩).run (fun r_1 hr_1 => ?_)
  clear hPc
  subst hr_1
  refine lv_if_eq (tgt := 18) hx hb dX12_meet_6 (by decide) (fun _ => ?_) (fun c_2 => absurd (by decide) c_2)
  refine lv_iconst (v := (-1)) hx hb dX12_meet_18 (by decide) ?_
  exact W.iret (v := (-1)) hx hb hr (fun t ht hW => ⟨(-1), rfl, rfl, ht⟩) (fun q hq => by cases hq) dX12_meet_19
set_option maxHeartbeats 4000000 in
set_option maxRecDepth 100000 in
theorem m_bar (l : Launch) (D : va_G) (cI : ClassId) (cB : ClassId) (cL : ClassId) (cZ : ClassId) (a0 : Nat) (ad : Nat → Nat) (v3 : Int32) (v6 : Int32) (v7 : Int32) (v8 : Int32) (v9 : Int32) (v36 : Int32) (v37 : Int32) (v38 : Int32) (v39 : Int32) (v40 : Int32) (v41 : Int32) (vN : Int64) (fR : Nat → Int32) (x : Int32) (y : Int32) (z : Int32) (hf_fR_0 : fR 0 = 0) : Met l yX12_bar wsX12_bar ({ frames := 3, cells := 0, slots := 0, locals := 65 }) (xr D [(cI, .int), (cB, .byte), (cL, .long), (cZ, .boolean)] [(a0, .inr (12, MF ad 0 v3 0 (-1) v6 v7 v8 v9 vN 0 v36 v37 v38 v39 v40 v41 0 0 0 0 0)), ((ad 11), .inl (cI, 2, .inl fR))] [.ref a0, .int x, .int y, .int z]) (vp_Si (fun r => r = (-1))) 0 0 (fun _ => False) := by
  refine Met.ofW (cc := cX12_bar) (maxL := 5) (ret := (some .int)) (by decide) rfl ?_
  intro p e s m args below meth c s₁ B hml hv
  obtain ⟨rfl, hP, hK⟩ := hv
  have hx := B.exec
  have hb := B.bytes
  have hr := B.returns
  have hts := atoms_spec (ws := wsX12_bar) B.pre
  have hown : s.vm.findClass RX12 = some m.cls := findClass_of_methodNamed B.named
  have hlocks := B.notSynchronized
  have hl := lv_entry ([.ref a0, .int x, .int y, .int z]) (n := 5) (Nat.le_of_ble_eq_true rfl)
  rw [lg_entry_eq]
  generalize (lg_sl ([.ref a0, .int x, .int y, .int z]) ++ List.replicate (5 - (lg_sl ([.ref a0, .int x, .int y, .int z])).length) Slot.unset).toArray = ls at hl ⊢
  replace hl : lv_has ls 5 [(0, .ref a0), (1, .int x), (2, .int y), (3, .int z)] := hl
  refine lv_aload_n hx hb dX12_bar_0 rfl (lv_at hl 0 rfl) ?_
  refine lv_iload_n hx hb dX12_bar_1 rfl (lv_at hl 1 rfl) ?_
  refine lv_iload_n hx hb dX12_bar_2 rfl (lv_at hl 2 rfl) ?_
  have hPc := hP.sub (ws' := [(a0, .inr (12, MF ad 0 v3 0 (-1) v6 v7 v8 v9 vN 0 v36 v37 v38 v39 v40 v41 0 0 0 0 0)), ((ad 11), .inl (cI, 2, .inl fR))]) [0, 1] rfl
  refine vp_callSi (va_runV (As := [.int x, .int y]) (rest := []) ⟨hx, hb, hml, hown, hts⟩ (m_areRooms l D cI cB cL cZ a0 ad v3 v6 v7 v8 v9 v36 v37 v38 v39 v40 v41 vN fR x y hf_fR_0) (cwV 2 hts gX12_bar_X12_areRooms rfl rfl rfl (by decide +kernel) ⟨Nat.le_of_ble_eq_true rfl, Nat.le_of_ble_eq_true rfl⟩) ⟨xr_blind, va_recv hK hPc (ci := 12) (q0 := 0) rfl rfl, fun U hU hW => xr_mk hU hW hPc hK⟩ rfl rfl hl.1 rfl (lv_room (Nat.le_of_ble_eq_true rfl)) dX12_bar_3 ⟨Nat.le_of_ble_eq_true rfl, Nat.le_of_ble_eq_true rfl⟩).run (fun r_1 hr_1 => ?_)
  clear hPc
  subst hr_1
  refine lv_if_eq (tgt := 23) hx hb dX12_bar_6 (by decide) (fun _ => ?_) (fun c_2 => absurd (by decide) c_2)
  refine lv_iconst (v := (-1)) hx hb dX12_bar_23 (by decide) ?_
  exact W.iret (v := (-1)) hx hb hr (fun t ht hW => ⟨(-1), rfl, rfl, ht⟩) (fun q hq => by cases hq) dX12_bar_24
set_option maxHeartbeats 4000000 in
set_option maxRecDepth 100000 in
theorem m_centre (l : Launch) (D : va_G) (cI : ClassId) (cB : ClassId) (cL : ClassId) (cZ : ClassId) (a0 : Nat) (ad : Nat → Nat) (v3 : Int32) (v6 : Int32) (v7 : Int32) (v8 : Int32) (v9 : Int32) (v36 : Int32) (v37 : Int32) (v38 : Int32) (v39 : Int32) (v40 : Int32) (v41 : Int32) (vN : Int64) (fR : Nat → Int32) (hf_fR_0 : fR 0 = 0) : Met l yX12_centre wsX12_centre ({ frames := 1, cells := 0, slots := 0, locals := 20 }) (xr D [(cI, .int), (cB, .byte), (cL, .long), (cZ, .boolean)] [(a0, .inr (12, MF ad 0 v3 0 (-1) v6 v7 v8 v9 vN 0 v36 v37 v38 v39 v40 v41 0 0 0 0 0)), ((ad 11), .inl (cI, 2, .inl fR))] [.ref a0]) (vp_Si (fun r => r = (-1))) 0 0 (fun _ => False) := by
  refine Met.ofW (cc := cX12_centre) (maxL := 3) (ret := (some .int)) (by decide) rfl ?_
  intro p e s m args below meth c s₁ B hml hv
  obtain ⟨rfl, hP, hK⟩ := hv
  have hx := B.exec
  have hb := B.bytes
  have hr := B.returns
  have hts := atoms_spec (ws := wsX12_centre) B.pre
  have hown : s.vm.findClass RX12 = some m.cls := findClass_of_methodNamed B.named
  have hlocks := B.notSynchronized
  have hl := lv_entry ([.ref a0]) (n := 3) (Nat.le_of_ble_eq_true rfl)
  rw [lg_entry_eq]
  generalize (lg_sl ([.ref a0]) ++ List.replicate (3 - (lg_sl ([.ref a0])).length) Slot.unset).toArray = ls at hl ⊢
  replace hl : lv_has ls 3 [(0, .ref a0)] := hl
  refine lv_iconst (v := (-1)) hx hb dX12_centre_0 (by decide) ?_
  refine lv_istore_n (lv' := [(1, .int (-1)), (0, .ref a0)]) hx hb dX12_centre_1 rfl hl (by decide) rfl (fun ls hl => ?_)
  refine lv_iconst (v := 0) hx hb dX12_centre_2 (by decide) ?_
  refine lv_istore_n (lv' := [(2, .int 0), (1, .int (-1)), (0, .ref a0)]) hx hb dX12_centre_3 rfl hl (by decide) rfl (fun ls hl => ?_)
  refine lv_iload_n hx hb dX12_centre_4 rfl (lv_at hl 0 rfl) ?_
  refine lv_aload_n hx hb dX12_centre_5 rfl (lv_at hl 2 rfl) ?_
  have hPc := hP.sub (ws' := [(a0, .inr (12, MF ad 0 v3 0 (-1) v6 v7 v8 v9 vN 0 v36 v37 v38 v39 v40 v41 0 0 0 0 0)), ((ad 11), .inl (cI, 2, .inl fR))]) [0, 1] rfl
  refine vp_callSi (va_runV (As := []) (rest := [.int 0]) ⟨hx, hb, hml, hown, hts⟩ (m_places l D cI cB cL cZ a0 ad v3 v6 v7 v8 v9 v36 v37 v38 v39 v40 v41 vN fR hf_fR_0) (cwV 0 hts gX12_centre_X12_places rfl rfl rfl (by decide +kernel) ⟨Nat.le_of_ble_eq_true rfl, Nat.le_of_ble_eq_true rfl⟩) ⟨xr_blind, va_recv hK hPc (ci := 12) (q0 := 0) rfl rfl, fun U hU hW => xr_mk hU hW hPc hK⟩ rfl rfl hl.1 rfl (lv_room (Nat.le_of_ble_eq_true rfl)) dX12_centre_6 ⟨Nat.le_of_ble_eq_true rfl, Nat.le_of_ble_eq_true rfl⟩).run (fun r_1 hr_1 => ?_)
  clear hPc
  subst hr_1
  refine lv_icmp_ge (tgt := 37) hx hb dX12_centre_9 (by decide) (fun _ => ?_) (fun c_2 => absurd (by decide) c_2)
  refine lv_iload_n hx hb dX12_centre_37 rfl (lv_at hl 1 rfl) ?_
  exact W.iret (v := (-1)) hx hb hr (fun t ht hW => ⟨(-1), rfl, rfl, ht⟩) (fun q hq => by cases hq) dX12_centre_38
set_option maxHeartbeats 4000000 in
set_option maxRecDepth 100000 in
theorem m_nooks (l : Launch) (D : va_G) (cI : ClassId) (cB : ClassId) (cL : ClassId) (cZ : ClassId) (a0 : Nat) (ad : Nat → Nat) (v3 : Int32) (v6 : Int32) (v7 : Int32) (v8 : Int32) (v9 : Int32) (v36 : Int32) (v37 : Int32) (v38 : Int32) (v39 : Int32) (v40 : Int32) (v41 : Int32) (vN : Int64) (fR : Nat → Int32) (hf_fR_0 : fR 0 = 0) : Met l yX12_nooks wsX12_nooks ({ frames := 1, cells := 0, slots := 0, locals := 20 }) (xr D [(cI, .int), (cB, .byte), (cL, .long), (cZ, .boolean)] [(a0, .inr (12, MF ad 0 v3 0 (-1) v6 v7 v8 v9 vN 0 v36 v37 v38 v39 v40 v41 0 0 0 0 0)), ((ad 11), .inl (cI, 2, .inl fR))] [.ref a0]) (vp_Si (fun r => r = 0)) 0 0 (fun _ => False) := by
  refine Met.ofW (cc := cX12_nooks) (maxL := 3) (ret := (some .int)) (by decide) rfl ?_
  intro p e s m args below meth c s₁ B hml hv
  obtain ⟨rfl, hP, hK⟩ := hv
  have hx := B.exec
  have hb := B.bytes
  have hr := B.returns
  have hts := atoms_spec (ws := wsX12_nooks) B.pre
  have hown : s.vm.findClass RX12 = some m.cls := findClass_of_methodNamed B.named
  have hlocks := B.notSynchronized
  have hl := lv_entry ([.ref a0]) (n := 3) (Nat.le_of_ble_eq_true rfl)
  rw [lg_entry_eq]
  generalize (lg_sl ([.ref a0]) ++ List.replicate (3 - (lg_sl ([.ref a0])).length) Slot.unset).toArray = ls at hl ⊢
  replace hl : lv_has ls 3 [(0, .ref a0)] := hl
  refine lv_iconst (v := 0) hx hb dX12_nooks_0 (by decide) ?_
  refine lv_istore_n (lv' := [(1, .int 0), (0, .ref a0)]) hx hb dX12_nooks_1 rfl hl (by decide) rfl (fun ls hl => ?_)
  refine lv_iconst (v := 0) hx hb dX12_nooks_2 (by decide) ?_
  refine lv_istore_n (lv' := [(2, .int 0), (1, .int 0), (0, .ref a0)]) hx hb dX12_nooks_3 rfl hl (by decide) rfl (fun ls hl => ?_)
  refine lv_iload_n hx hb dX12_nooks_4 rfl (lv_at hl 0 rfl) ?_
  refine lv_aload_n hx hb dX12_nooks_5 rfl (lv_at hl 2 rfl) ?_
  have hPc := hP.sub (ws' := [(a0, .inr (12, MF ad 0 v3 0 (-1) v6 v7 v8 v9 vN 0 v36 v37 v38 v39 v40 v41 0 0 0 0 0)), ((ad 11), .inl (cI, 2, .inl fR))]) [0, 1] rfl
  refine vp_callSi (va_runV (As := []) (rest := [.int 0]) ⟨hx, hb, hml, hown, hts⟩ (m_places l D cI cB cL cZ a0 ad v3 v6 v7 v8 v9 v36 v37 v38 v39 v40 v41 vN fR hf_fR_0) (cwV 0 hts gX12_nooks_X12_places rfl rfl rfl (by decide +kernel) ⟨Nat.le_of_ble_eq_true rfl, Nat.le_of_ble_eq_true rfl⟩) ⟨xr_blind, va_recv hK hPc (ci := 12) (q0 := 0) rfl rfl, fun U hU hW => xr_mk hU hW hPc hK⟩ rfl rfl hl.1 rfl (lv_room (Nat.le_of_ble_eq_true rfl)) dX12_nooks_6 ⟨Nat.le_of_ble_eq_true rfl, Nat.le_of_ble_eq_true rfl⟩).run (fun r_1 hr_1 => ?_)
  clear hPc
  subst hr_1
  refine lv_icmp_ge (tgt := 37) hx hb dX12_nooks_9 (by decide) (fun _ => ?_) (fun c_2 => absurd (by decide) c_2)
  refine lv_iload_n hx hb dX12_nooks_37 rfl (lv_at hl 1 rfl) ?_
  exact W.iret (v := 0) hx hb hr (fun t ht hW => ⟨0, rfl, rfl, ht⟩) (fun q hq => by cases hq) dX12_nooks_38
set_option maxHeartbeats 4000000 in
set_option maxRecDepth 100000 in
theorem m_echo (l : Launch) (D : va_G) (cI : ClassId) (cB : ClassId) (cL : ClassId) (cZ : ClassId) (a0 : Nat) (ad : Nat → Nat) (v3 : Int32) (v6 : Int32) (v7 : Int32) (v8 : Int32) (v9 : Int32) (v36 : Int32) (v37 : Int32) (v38 : Int32) (v39 : Int32) (v40 : Int32) (v41 : Int32) (vN : Int64) (fR : Nat → Int32) (x : Int32) (y : Int32) (hf_fR_0 : fR 0 = 0) : Met l yX12_echo wsX12_echo ({ frames := 2, cells := 0, slots := 0, locals := 43 }) (xr D [(cI, .int), (cB, .byte), (cL, .long), (cZ, .boolean)] [(a0, .inr (12, MF ad 0 v3 0 (-1) v6 v7 v8 v9 vN 0 v36 v37 v38 v39 v40 v41 0 0 0 0 0)), ((ad 11), .inl (cI, 2, .inl fR))] [.ref a0, .int x, .int y]) (vp_Si (fun r => r = (-1))) 0 0 (fun _ => False) := by
  refine Met.ofW (cc := cX12_echo) (maxL := 5) (ret := (some .int)) (by decide) rfl ?_
  intro p e s m args below meth c s₁ B hml hv
  obtain ⟨rfl, hP, hK⟩ := hv
  have hx := B.exec
  have hb := B.bytes
  have hr := B.returns
  have hts := atoms_spec (ws := wsX12_echo) B.pre
  have hown : s.vm.findClass RX12 = some m.cls := findClass_of_methodNamed B.named
  have hlocks := B.notSynchronized
  have hl := lv_entry ([.ref a0, .int x, .int y]) (n := 5) (Nat.le_of_ble_eq_true rfl)
  rw [lg_entry_eq]
  generalize (lg_sl ([.ref a0, .int x, .int y]) ++ List.replicate (5 - (lg_sl ([.ref a0, .int x, .int y])).length) Slot.unset).toArray = ls at hl ⊢
  replace hl : lv_has ls 5 [(0, .ref a0), (1, .int x), (2, .int y)] := hl
  refine lv_aload_n hx hb dX12_echo_0 rfl (lv_at hl 0 rfl) ?_
  refine lv_iload_n hx hb dX12_echo_1 rfl (lv_at hl 1 rfl) ?_
  have hPc := hP.sub (ws' := [(a0, .inr (12, MF ad 0 v3 0 (-1) v6 v7 v8 v9 vN 0 v36 v37 v38 v39 v40 v41 0 0 0 0 0)), ((ad 11), .inl (cI, 2, .inl fR))]) [0, 1] rfl
  refine vp_callSi (va_runV (As := [.int x]) (rest := []) ⟨hx, hb, hml, hown, hts⟩ (m_isRoom l D cI cB cL cZ a0 ad v3 v6 v7 v8 v9 v36 v37 v38 v39 v40 v41 vN fR x hf_fR_0) (cwV 1 hts gX12_echo_X12_isRoom rfl rfl rfl (by decide +kernel) ⟨Nat.le_of_ble_eq_true rfl, Nat.le_of_ble_eq_true rfl⟩) ⟨xr_blind, va_recv hK hPc (ci := 12) (q0 := 0) rfl rfl, fun U hU hW => xr_mk hU hW hPc hK⟩ rfl rfl hl.1 rfl (lv_room (Nat.le_of_ble_eq_true rfl)) dX12_echo_2 ⟨Nat.le_of_ble_eq_true rfl, Nat.le_of_ble_eq_true rfl⟩).run (fun r_1 hr_1 => ?_)
  clear hPc
  subst hr_1
  refine lv_if_eq (tgt := 18) hx hb dX12_echo_5 (by decide) (fun _ => ?_) (fun c_2 => absurd (by decide) c_2)
  refine lv_iconst (v := (-1)) hx hb dX12_echo_18 (by decide) ?_
  exact W.iret (v := (-1)) hx hb hr (fun t ht hW => ⟨(-1), rfl, rfl, ht⟩) (fun q hq => by cases hq) dX12_echo_19
set_option maxHeartbeats 4000000 in
set_option maxRecDepth 100000 in
theorem m_mend (l : Launch) (D : va_G) (cI : ClassId) (cB : ClassId) (cL : ClassId) (cZ : ClassId) (a0 : Nat) (ad : Nat → Nat) (v3 : Int32) (v6 : Int32) (v7 : Int32) (v8 : Int32) (v9 : Int32) (v36 : Int32) (v37 : Int32) (v38 : Int32) (v39 : Int32) (v40 : Int32) (v41 : Int32) (vN : Int64) (fT : Nat → Int32) (x : Int32) (hf_fT_0 : fT 0 = 0) : Met l yX12_mend wsX12_mend ({ frames := 1, cells := 0, slots := 0, locals := 22 }) (xr D [(cI, .int), (cB, .byte), (cL, .long), (cZ, .boolean)] [(a0, .inr (12, MF ad 0 v3 0 (-1) v6 v7 v8 v9 vN 0 v36 v37 v38 v39 v40 v41 0 0 0 0 0)), ((ad 13), .inl (cI, 2, .inl fT))] [.ref a0, .int x]) (vp_Si (fun r => r = sp_rng 99 x)) 0 0 (fun _ => False) := by
  refine Met.ofW (cc := cX12_mend) (maxL := 6) (ret := (some .int)) (by decide) rfl ?_
  intro p e s m args below meth c s₁ B hml hv
  obtain ⟨rfl, hP, hK⟩ := hv
  have hx := B.exec
  have hb := B.bytes
  have hr := B.returns
  have hts := atoms_spec (ws := wsX12_mend) B.pre
  have hown : s.vm.findClass RX12 = some m.cls := findClass_of_methodNamed B.named
  have hlocks := B.notSynchronized
  have hl := lv_entry ([.ref a0, .int x]) (n := 6) (Nat.le_of_ble_eq_true rfl)
  rw [lg_entry_eq]
  generalize (lg_sl ([.ref a0, .int x]) ++ List.replicate (6 - (lg_sl ([.ref a0, .int x])).length) Slot.unset).toArray = ls at hl ⊢
  replace hl : lv_has ls 6 [(0, .ref a0), (1, .int x)] := hl
  refine lv_iload_n hx hb dX12_mend_0 rfl (lv_at hl 1 rfl) ?_
  refine lv_iconst (v := 0) hx hb dX12_mend_1 (by decide) ?_
  refine lv_bipush (v := 99) hx hb dX12_mend_2 (by decide) ?_
  have hPc := hP.sub (ws' := []) [] rfl
  refine vp_callSi (va_runS (As := [.int x, .int 0, .int 99]) (rest := []) ⟨hx, hb, hml, hown, hts⟩ (m_isIn l D cI cB cL cZ x 0 99) (va_cwS 3 hts gX12_mend_X12_isIn rfl rfl rfl (by decide +kernel) ⟨Nat.le_of_ble_eq_true rfl, Nat.le_of_ble_eq_true rfl⟩) ⟨xr_blind, fun U hU hW => xr_mk hU hW hPc hK⟩ rfl rfl hl.1 rfl (lv_room (Nat.le_of_ble_eq_true rfl)) dX12_mend_4 ⟨Nat.le_of_ble_eq_true rfl, Nat.le_of_ble_eq_true rfl⟩).run (fun r_1 hr_1 => ?_)
  clear hPc
  rcases hr_1 with ⟨rfl, hr_1_0, hr_1_1⟩ | ⟨rfl, hr_1_0⟩ | ⟨rfl, hr_1_0, hr_1_1⟩
  · refine lv_if_ne (tgt := 12) hx hb dX12_mend_7 (by decide) (fun _ => ?_) (fun c_2 => absurd c_2 (by decide))
    refine lv_iload_n hx hb dX12_mend_12 rfl (lv_at hl 1 rfl) ?_
    refine lv_istore_n (lv' := [(2, .int x), (0, .ref a0), (1, .int x)]) hx hb dX12_mend_13 rfl hl (by decide) rfl (fun ls hl => ?_)
    refine lv_iconst (v := 0) hx hb dX12_mend_14 (by decide) ?_
    refine lv_istore_n (lv' := [(3, .int 0), (2, .int x), (0, .ref a0), (1, .int x)]) hx hb dX12_mend_15 rfl hl (by decide) rfl (fun ls hl => ?_)
    refine lv_iconst (v := 0) hx hb dX12_mend_16 (by decide) ?_
    refine lv_istore (lv' := [(4, .int 0), (3, .int 0), (2, .int x), (0, .ref a0), (1, .int x)]) hx hb dX12_mend_17 hl (by decide) rfl (fun ls hl => ?_)
    refine lv_iload hx hb dX12_mend_19 (lv_at hl 0 rfl) ?_
    refine lv_bipush (v := 8) hx hb dX12_mend_21 (by decide) ?_
    refine lv_icmp_ge (tgt := 95) hx hb dX12_mend_23 (by decide) (fun c_3 => absurd c_3 (by decide)) (fun _ => ?_)
    refine lv_iconst (v := 0) hx hb dX12_mend_26 (by decide) ?_
    refine lv_istore (lv' := [(5, .int 0), (4, .int 0), (3, .int 0), (2, .int x), (0, .ref a0), (1, .int x)]) hx hb dX12_mend_27 hl (by decide) rfl (fun ls hl => ?_)
    refine lv_iload hx hb dX12_mend_29 (lv_at hl 0 rfl) ?_
    refine lv_aload_n hx hb dX12_mend_31 rfl (lv_at hl 4 rfl) ?_
    have hPc := hP.sub (ws' := [(a0, .inr (12, MF ad 0 v3 0 (-1) v6 v7 v8 v9 vN 0 v36 v37 v38 v39 v40 v41 0 0 0 0 0)), ((ad 13), .inl (cI, 2, .inl fT))]) [0, 1] rfl
    refine vp_callSi (va_runV (As := []) (rest := [.int 0]) ⟨hx, hb, hml, hown, hts⟩ (m_many l D cI cB cL cZ a0 ad v3 v6 v7 v8 v9 v36 v37 v38 v39 v40 v41 vN fT hf_fT_0) (cwV 0 hts gX12_mend_X12_many rfl rfl rfl (by decide +kernel) ⟨Nat.le_of_ble_eq_true rfl, Nat.le_of_ble_eq_true rfl⟩) ⟨xr_blind, va_recv hK hPc (ci := 12) (q0 := 0) rfl rfl, fun U hU hW => xr_mk hU hW hPc hK⟩ rfl rfl hl.1 rfl (lv_room (Nat.le_of_ble_eq_true rfl)) dX12_mend_32 ⟨Nat.le_of_ble_eq_true rfl, Nat.le_of_ble_eq_true rfl⟩).run (fun r_4 hr_4 => ?_)
    clear hPc
    subst hr_4
    refine lv_icmp_ge (tgt := 89) hx hb dX12_mend_35 (by decide) (fun _ => ?_) (fun c_5 => absurd (by decide) c_5)
    refine lv_iinc (v := 1) (lv' := [(4, .int 1), (5, .int 0), (3, .int 0), (2, .int x), (0, .ref a0), (1, .int x)]) hx hb dX12_mend_89 hl (k := 1) rfl (by decide) (by decide) rfl (fun ls hl => ?_)
    refine lv_goto (tgt := 19) hx hb dX12_mend_92 (by decide) ?_
    refine lv_iload hx hb dX12_mend_19 (lv_at hl 0 rfl) ?_
    refine lv_bipush (v := 8) hx hb dX12_mend_21 (by decide) ?_
    refine lv_icmp_ge (tgt := 95) hx hb dX12_mend_23 (by decide) (fun c_6 => absurd c_6 (by decide)) (fun _ => ?_)
    refine lv_iconst (v := 0) hx hb dX12_mend_26 (by decide) ?_
    refine lv_istore (lv' := [(5, .int 0), (4, .int 1), (3, .int 0), (2, .int x), (0, .ref a0), (1, .int x)]) hx hb dX12_mend_27 hl (by decide) rfl (fun ls hl => ?_)
    refine lv_iload hx hb dX12_mend_29 (lv_at hl 0 rfl) ?_
    refine lv_aload_n hx hb dX12_mend_31 rfl (lv_at hl 4 rfl) ?_
    have hPc := hP.sub (ws' := [(a0, .inr (12, MF ad 0 v3 0 (-1) v6 v7 v8 v9 vN 0 v36 v37 v38 v39 v40 v41 0 0 0 0 0)), ((ad 13), .inl (cI, 2, .inl fT))]) [0, 1] rfl
    refine vp_callSi (va_runV (As := []) (rest := [.int 0]) ⟨hx, hb, hml, hown, hts⟩ (m_many l D cI cB cL cZ a0 ad v3 v6 v7 v8 v9 v36 v37 v38 v39 v40 v41 vN fT hf_fT_0) (cwV 0 hts gX12_mend_X12_many rfl rfl rfl (by decide +kernel) ⟨Nat.le_of_ble_eq_true rfl, Nat.le_of_ble_eq_true rfl⟩) ⟨xr_blind, va_recv hK hPc (ci := 12) (q0 := 0) rfl rfl, fun U hU hW => xr_mk hU hW hPc hK⟩ rfl rfl hl.1 rfl (lv_room (Nat.le_of_ble_eq_true rfl)) dX12_mend_32 ⟨Nat.le_of_ble_eq_true rfl, Nat.le_of_ble_eq_true rfl⟩).run (fun r_7 hr_7 => ?_)
    clear hPc
    subst hr_7
    refine lv_icmp_ge (tgt := 89) hx hb dX12_mend_35 (by decide) (fun _ => ?_) (fun c_8 => absurd (by decide) c_8)
    refine lv_iinc (v := 2) (lv' := [(4, .int 2), (5, .int 0), (3, .int 0), (2, .int x), (0, .ref a0), (1, .int x)]) hx hb dX12_mend_89 hl (k := 1) rfl (by decide) (by decide) rfl (fun ls hl => ?_)
    refine lv_goto (tgt := 19) hx hb dX12_mend_92 (by decide) ?_
    refine lv_iload hx hb dX12_mend_19 (lv_at hl 0 rfl) ?_
    refine lv_bipush (v := 8) hx hb dX12_mend_21 (by decide) ?_
    refine lv_icmp_ge (tgt := 95) hx hb dX12_mend_23 (by decide) (fun c_9 => absurd c_9 (by decide)) (fun _ => ?_)
    refine lv_iconst (v := 0) hx hb dX12_mend_26 (by decide) ?_
    refine lv_istore (lv' := [(5, .int 0), (4, .int 2), (3, .int 0), (2, .int x), (0, .ref a0), (1, .int x)]) hx hb dX12_mend_27 hl (by decide) rfl (fun ls hl => ?_)
    refine lv_iload hx hb dX12_mend_29 (lv_at hl 0 rfl) ?_
    refine lv_aload_n hx hb dX12_mend_31 rfl (lv_at hl 4 rfl) ?_
    have hPc := hP.sub (ws' := [(a0, .inr (12, MF ad 0 v3 0 (-1) v6 v7 v8 v9 vN 0 v36 v37 v38 v39 v40 v41 0 0 0 0 0)), ((ad 13), .inl (cI, 2, .inl fT))]) [0, 1] rfl
    refine vp_callSi (va_runV (As := []) (rest := [.int 0]) ⟨hx, hb, hml, hown, hts⟩ (m_many l D cI cB cL cZ a0 ad v3 v6 v7 v8 v9 v36 v37 v38 v39 v40 v41 vN fT hf_fT_0) (cwV 0 hts gX12_mend_X12_many rfl rfl rfl (by decide +kernel) ⟨Nat.le_of_ble_eq_true rfl, Nat.le_of_ble_eq_true rfl⟩) ⟨xr_blind, va_recv hK hPc (ci := 12) (q0 := 0) rfl rfl, fun U hU hW => xr_mk hU hW hPc hK⟩ rfl rfl hl.1 rfl (lv_room (Nat.le_of_ble_eq_true rfl)) dX12_mend_32 ⟨Nat.le_of_ble_eq_true rfl, Nat.le_of_ble_eq_true rfl⟩).run (fun r_10 hr_10 => ?_)
    clear hPc
    subst hr_10
    refine lv_icmp_ge (tgt := 89) hx hb dX12_mend_35 (by decide) (fun _ => ?_) (fun c_11 => absurd (by decide) c_11)
    refine lv_iinc (v := 3) (lv' := [(4, .int 3), (5, .int 0), (3, .int 0), (2, .int x), (0, .ref a0), (1, .int x)]) hx hb dX12_mend_89 hl (k := 1) rfl (by decide) (by decide) rfl (fun ls hl => ?_)
    refine lv_goto (tgt := 19) hx hb dX12_mend_92 (by decide) ?_
    refine lv_iload hx hb dX12_mend_19 (lv_at hl 0 rfl) ?_
    refine lv_bipush (v := 8) hx hb dX12_mend_21 (by decide) ?_
    refine lv_icmp_ge (tgt := 95) hx hb dX12_mend_23 (by decide) (fun c_12 => absurd c_12 (by decide)) (fun _ => ?_)
    refine lv_iconst (v := 0) hx hb dX12_mend_26 (by decide) ?_
    refine lv_istore (lv' := [(5, .int 0), (4, .int 3), (3, .int 0), (2, .int x), (0, .ref a0), (1, .int x)]) hx hb dX12_mend_27 hl (by decide) rfl (fun ls hl => ?_)
    refine lv_iload hx hb dX12_mend_29 (lv_at hl 0 rfl) ?_
    refine lv_aload_n hx hb dX12_mend_31 rfl (lv_at hl 4 rfl) ?_
    have hPc := hP.sub (ws' := [(a0, .inr (12, MF ad 0 v3 0 (-1) v6 v7 v8 v9 vN 0 v36 v37 v38 v39 v40 v41 0 0 0 0 0)), ((ad 13), .inl (cI, 2, .inl fT))]) [0, 1] rfl
    refine vp_callSi (va_runV (As := []) (rest := [.int 0]) ⟨hx, hb, hml, hown, hts⟩ (m_many l D cI cB cL cZ a0 ad v3 v6 v7 v8 v9 v36 v37 v38 v39 v40 v41 vN fT hf_fT_0) (cwV 0 hts gX12_mend_X12_many rfl rfl rfl (by decide +kernel) ⟨Nat.le_of_ble_eq_true rfl, Nat.le_of_ble_eq_true rfl⟩) ⟨xr_blind, va_recv hK hPc (ci := 12) (q0 := 0) rfl rfl, fun U hU hW => xr_mk hU hW hPc hK⟩ rfl rfl hl.1 rfl (lv_room (Nat.le_of_ble_eq_true rfl)) dX12_mend_32 ⟨Nat.le_of_ble_eq_true rfl, Nat.le_of_ble_eq_true rfl⟩).run (fun r_13 hr_13 => ?_)
    clear hPc
    subst hr_13
    refine lv_icmp_ge (tgt := 89) hx hb dX12_mend_35 (by decide) (fun _ => ?_) (fun c_14 => absurd (by decide) c_14)
    refine lv_iinc (v := 4) (lv' := [(4, .int 4), (5, .int 0), (3, .int 0), (2, .int x), (0, .ref a0), (1, .int x)]) hx hb dX12_mend_89 hl (k := 1) rfl (by decide) (by decide) rfl (fun ls hl => ?_)
    refine lv_goto (tgt := 19) hx hb dX12_mend_92 (by decide) ?_
    refine lv_iload hx hb dX12_mend_19 (lv_at hl 0 rfl) ?_
    refine lv_bipush (v := 8) hx hb dX12_mend_21 (by decide) ?_
    refine lv_icmp_ge (tgt := 95) hx hb dX12_mend_23 (by decide) (fun c_15 => absurd c_15 (by decide)) (fun _ => ?_)
    refine lv_iconst (v := 0) hx hb dX12_mend_26 (by decide) ?_
    refine lv_istore (lv' := [(5, .int 0), (4, .int 4), (3, .int 0), (2, .int x), (0, .ref a0), (1, .int x)]) hx hb dX12_mend_27 hl (by decide) rfl (fun ls hl => ?_)
    refine lv_iload hx hb dX12_mend_29 (lv_at hl 0 rfl) ?_
    refine lv_aload_n hx hb dX12_mend_31 rfl (lv_at hl 4 rfl) ?_
    have hPc := hP.sub (ws' := [(a0, .inr (12, MF ad 0 v3 0 (-1) v6 v7 v8 v9 vN 0 v36 v37 v38 v39 v40 v41 0 0 0 0 0)), ((ad 13), .inl (cI, 2, .inl fT))]) [0, 1] rfl
    refine vp_callSi (va_runV (As := []) (rest := [.int 0]) ⟨hx, hb, hml, hown, hts⟩ (m_many l D cI cB cL cZ a0 ad v3 v6 v7 v8 v9 v36 v37 v38 v39 v40 v41 vN fT hf_fT_0) (cwV 0 hts gX12_mend_X12_many rfl rfl rfl (by decide +kernel) ⟨Nat.le_of_ble_eq_true rfl, Nat.le_of_ble_eq_true rfl⟩) ⟨xr_blind, va_recv hK hPc (ci := 12) (q0 := 0) rfl rfl, fun U hU hW => xr_mk hU hW hPc hK⟩ rfl rfl hl.1 rfl (lv_room (Nat.le_of_ble_eq_true rfl)) dX12_mend_32 ⟨Nat.le_of_ble_eq_true rfl, Nat.le_of_ble_eq_true rfl⟩).run (fun r_16 hr_16 => ?_)
    clear hPc
    subst hr_16
    refine lv_icmp_ge (tgt := 89) hx hb dX12_mend_35 (by decide) (fun _ => ?_) (fun c_17 => absurd (by decide) c_17)
    refine lv_iinc (v := 5) (lv' := [(4, .int 5), (5, .int 0), (3, .int 0), (2, .int x), (0, .ref a0), (1, .int x)]) hx hb dX12_mend_89 hl (k := 1) rfl (by decide) (by decide) rfl (fun ls hl => ?_)
    refine lv_goto (tgt := 19) hx hb dX12_mend_92 (by decide) ?_
    refine lv_iload hx hb dX12_mend_19 (lv_at hl 0 rfl) ?_
    refine lv_bipush (v := 8) hx hb dX12_mend_21 (by decide) ?_
    refine lv_icmp_ge (tgt := 95) hx hb dX12_mend_23 (by decide) (fun c_18 => absurd c_18 (by decide)) (fun _ => ?_)
    refine lv_iconst (v := 0) hx hb dX12_mend_26 (by decide) ?_
    refine lv_istore (lv' := [(5, .int 0), (4, .int 5), (3, .int 0), (2, .int x), (0, .ref a0), (1, .int x)]) hx hb dX12_mend_27 hl (by decide) rfl (fun ls hl => ?_)
    refine lv_iload hx hb dX12_mend_29 (lv_at hl 0 rfl) ?_
    refine lv_aload_n hx hb dX12_mend_31 rfl (lv_at hl 4 rfl) ?_
    have hPc := hP.sub (ws' := [(a0, .inr (12, MF ad 0 v3 0 (-1) v6 v7 v8 v9 vN 0 v36 v37 v38 v39 v40 v41 0 0 0 0 0)), ((ad 13), .inl (cI, 2, .inl fT))]) [0, 1] rfl
    refine vp_callSi (va_runV (As := []) (rest := [.int 0]) ⟨hx, hb, hml, hown, hts⟩ (m_many l D cI cB cL cZ a0 ad v3 v6 v7 v8 v9 v36 v37 v38 v39 v40 v41 vN fT hf_fT_0) (cwV 0 hts gX12_mend_X12_many rfl rfl rfl (by decide +kernel) ⟨Nat.le_of_ble_eq_true rfl, Nat.le_of_ble_eq_true rfl⟩) ⟨xr_blind, va_recv hK hPc (ci := 12) (q0 := 0) rfl rfl, fun U hU hW => xr_mk hU hW hPc hK⟩ rfl rfl hl.1 rfl (lv_room (Nat.le_of_ble_eq_true rfl)) dX12_mend_32 ⟨Nat.le_of_ble_eq_true rfl, Nat.le_of_ble_eq_true rfl⟩).run (fun r_19 hr_19 => ?_)
    clear hPc
    subst hr_19
    refine lv_icmp_ge (tgt := 89) hx hb dX12_mend_35 (by decide) (fun _ => ?_) (fun c_20 => absurd (by decide) c_20)
    refine lv_iinc (v := 6) (lv' := [(4, .int 6), (5, .int 0), (3, .int 0), (2, .int x), (0, .ref a0), (1, .int x)]) hx hb dX12_mend_89 hl (k := 1) rfl (by decide) (by decide) rfl (fun ls hl => ?_)
    refine lv_goto (tgt := 19) hx hb dX12_mend_92 (by decide) ?_
    refine lv_iload hx hb dX12_mend_19 (lv_at hl 0 rfl) ?_
    refine lv_bipush (v := 8) hx hb dX12_mend_21 (by decide) ?_
    refine lv_icmp_ge (tgt := 95) hx hb dX12_mend_23 (by decide) (fun c_21 => absurd c_21 (by decide)) (fun _ => ?_)
    refine lv_iconst (v := 0) hx hb dX12_mend_26 (by decide) ?_
    refine lv_istore (lv' := [(5, .int 0), (4, .int 6), (3, .int 0), (2, .int x), (0, .ref a0), (1, .int x)]) hx hb dX12_mend_27 hl (by decide) rfl (fun ls hl => ?_)
    refine lv_iload hx hb dX12_mend_29 (lv_at hl 0 rfl) ?_
    refine lv_aload_n hx hb dX12_mend_31 rfl (lv_at hl 4 rfl) ?_
    have hPc := hP.sub (ws' := [(a0, .inr (12, MF ad 0 v3 0 (-1) v6 v7 v8 v9 vN 0 v36 v37 v38 v39 v40 v41 0 0 0 0 0)), ((ad 13), .inl (cI, 2, .inl fT))]) [0, 1] rfl
    refine vp_callSi (va_runV (As := []) (rest := [.int 0]) ⟨hx, hb, hml, hown, hts⟩ (m_many l D cI cB cL cZ a0 ad v3 v6 v7 v8 v9 v36 v37 v38 v39 v40 v41 vN fT hf_fT_0) (cwV 0 hts gX12_mend_X12_many rfl rfl rfl (by decide +kernel) ⟨Nat.le_of_ble_eq_true rfl, Nat.le_of_ble_eq_true rfl⟩) ⟨xr_blind, va_recv hK hPc (ci := 12) (q0 := 0) rfl rfl, fun U hU hW => xr_mk hU hW hPc hK⟩ rfl rfl hl.1 rfl (lv_room (Nat.le_of_ble_eq_true rfl)) dX12_mend_32 ⟨Nat.le_of_ble_eq_true rfl, Nat.le_of_ble_eq_true rfl⟩).run (fun r_22 hr_22 => ?_)
    clear hPc
    subst hr_22
    refine lv_icmp_ge (tgt := 89) hx hb dX12_mend_35 (by decide) (fun _ => ?_) (fun c_23 => absurd (by decide) c_23)
    refine lv_iinc (v := 7) (lv' := [(4, .int 7), (5, .int 0), (3, .int 0), (2, .int x), (0, .ref a0), (1, .int x)]) hx hb dX12_mend_89 hl (k := 1) rfl (by decide) (by decide) rfl (fun ls hl => ?_)
    refine lv_goto (tgt := 19) hx hb dX12_mend_92 (by decide) ?_
    refine lv_iload hx hb dX12_mend_19 (lv_at hl 0 rfl) ?_
    refine lv_bipush (v := 8) hx hb dX12_mend_21 (by decide) ?_
    refine lv_icmp_ge (tgt := 95) hx hb dX12_mend_23 (by decide) (fun c_24 => absurd c_24 (by decide)) (fun _ => ?_)
    refine lv_iconst (v := 0) hx hb dX12_mend_26 (by decide) ?_
    refine lv_istore (lv' := [(5, .int 0), (4, .int 7), (3, .int 0), (2, .int x), (0, .ref a0), (1, .int x)]) hx hb dX12_mend_27 hl (by decide) rfl (fun ls hl => ?_)
    refine lv_iload hx hb dX12_mend_29 (lv_at hl 0 rfl) ?_
    refine lv_aload_n hx hb dX12_mend_31 rfl (lv_at hl 4 rfl) ?_
    have hPc := hP.sub (ws' := [(a0, .inr (12, MF ad 0 v3 0 (-1) v6 v7 v8 v9 vN 0 v36 v37 v38 v39 v40 v41 0 0 0 0 0)), ((ad 13), .inl (cI, 2, .inl fT))]) [0, 1] rfl
    refine vp_callSi (va_runV (As := []) (rest := [.int 0]) ⟨hx, hb, hml, hown, hts⟩ (m_many l D cI cB cL cZ a0 ad v3 v6 v7 v8 v9 v36 v37 v38 v39 v40 v41 vN fT hf_fT_0) (cwV 0 hts gX12_mend_X12_many rfl rfl rfl (by decide +kernel) ⟨Nat.le_of_ble_eq_true rfl, Nat.le_of_ble_eq_true rfl⟩) ⟨xr_blind, va_recv hK hPc (ci := 12) (q0 := 0) rfl rfl, fun U hU hW => xr_mk hU hW hPc hK⟩ rfl rfl hl.1 rfl (lv_room (Nat.le_of_ble_eq_true rfl)) dX12_mend_32 ⟨Nat.le_of_ble_eq_true rfl, Nat.le_of_ble_eq_true rfl⟩).run (fun r_25 hr_25 => ?_)
    clear hPc
    subst hr_25
    refine lv_icmp_ge (tgt := 89) hx hb dX12_mend_35 (by decide) (fun _ => ?_) (fun c_26 => absurd (by decide) c_26)
    refine lv_iinc (v := 8) (lv' := [(4, .int 8), (5, .int 0), (3, .int 0), (2, .int x), (0, .ref a0), (1, .int x)]) hx hb dX12_mend_89 hl (k := 1) rfl (by decide) (by decide) rfl (fun ls hl => ?_)
    refine lv_goto (tgt := 19) hx hb dX12_mend_92 (by decide) ?_
    refine lv_iload hx hb dX12_mend_19 (lv_at hl 0 rfl) ?_
    refine lv_bipush (v := 8) hx hb dX12_mend_21 (by decide) ?_
    refine lv_icmp_ge (tgt := 95) hx hb dX12_mend_23 (by decide) (fun _ => ?_) (fun c_27 => absurd (by decide) c_27)
    refine lv_iload_n hx hb dX12_mend_95 rfl (lv_at hl 2 rfl) ?_
    exact W.iret (v := 0) hx hb hr (fun t ht hW => ⟨0, rfl, (sp_rng_in hr_1_0 hr_1_1).symm, ht⟩) (fun q hq => by cases hq) dX12_mend_96
  · refine lv_if_ne (tgt := 12) hx hb dX12_mend_7 (by decide) (fun c_28 => absurd (by decide) c_28) (fun _ => ?_)
    refine lv_iconst (v := (-1)) hx hb dX12_mend_10 (by decide) ?_
    exact W.iret (v := (-1)) hx hb hr (fun t ht hW => ⟨(-1), rfl, (sp_rng_lt hr_1_0).symm, ht⟩) (fun q hq => by cases hq) dX12_mend_11
  · refine lv_if_ne (tgt := 12) hx hb dX12_mend_7 (by decide) (fun c_29 => absurd (by decide) c_29) (fun _ => ?_)
    refine lv_iconst (v := (-1)) hx hb dX12_mend_10 (by decide) ?_
    exact W.iret (v := (-1)) hx hb hr (fun t ht hW => ⟨(-1), rfl, (sp_rng_gt hr_1_0 hr_1_1).symm, ht⟩) (fun q hq => by cases hq) dX12_mend_11
set_option maxHeartbeats 4000000 in
set_option maxRecDepth 100000 in
theorem m_regret (l : Launch) (D : va_G) (cI : ClassId) (cB : ClassId) (cL : ClassId) (cZ : ClassId) (a0 : Nat) (ad : Nat → Nat) (v3 : Int32) (v6 : Int32) (v7 : Int32) (v8 : Int32) (v9 : Int32) (v36 : Int32) (v37 : Int32) (v38 : Int32) (v39 : Int32) (v40 : Int32) (v41 : Int32) (vN : Int64) (fT : Nat → Int32) (hf_fT_0 : fT 0 = 0) : Met l yX12_regret wsX12_regret ({ frames := 1, cells := 0, slots := 0, locals := 20 }) (xr D [(cI, .int), (cB, .byte), (cL, .long), (cZ, .boolean)] [(a0, .inr (12, MF ad 0 v3 0 (-1) v6 v7 v8 v9 vN 0 v36 v37 v38 v39 v40 v41 0 0 0 0 0)), ((ad 13), .inl (cI, 2, .inl fT))] [.ref a0]) (vp_Si (fun r => r = 0)) 0 0 (fun _ => False) := by
  refine Met.ofW (cc := cX12_regret) (maxL := 3) (ret := (some .int)) (by decide) rfl ?_
  intro p e s m args below meth c s₁ B hml hv
  obtain ⟨rfl, hP, hK⟩ := hv
  have hx := B.exec
  have hb := B.bytes
  have hr := B.returns
  have hts := atoms_spec (ws := wsX12_regret) B.pre
  have hown : s.vm.findClass RX12 = some m.cls := findClass_of_methodNamed B.named
  have hlocks := B.notSynchronized
  have hl := lv_entry ([.ref a0]) (n := 3) (Nat.le_of_ble_eq_true rfl)
  rw [lg_entry_eq]
  generalize (lg_sl ([.ref a0]) ++ List.replicate (3 - (lg_sl ([.ref a0])).length) Slot.unset).toArray = ls at hl ⊢
  replace hl : lv_has ls 3 [(0, .ref a0)] := hl
  refine lv_iconst (v := 0) hx hb dX12_regret_0 (by decide) ?_
  refine lv_istore_n (lv' := [(1, .int 0), (0, .ref a0)]) hx hb dX12_regret_1 rfl hl (by decide) rfl (fun ls hl => ?_)
  refine lv_iconst (v := 0) hx hb dX12_regret_2 (by decide) ?_
  refine lv_istore_n (lv' := [(2, .int 0), (1, .int 0), (0, .ref a0)]) hx hb dX12_regret_3 rfl hl (by decide) rfl (fun ls hl => ?_)
  refine lv_iload_n hx hb dX12_regret_4 rfl (lv_at hl 0 rfl) ?_
  refine lv_aload_n hx hb dX12_regret_5 rfl (lv_at hl 2 rfl) ?_
  have hPc := hP.sub (ws' := [(a0, .inr (12, MF ad 0 v3 0 (-1) v6 v7 v8 v9 vN 0 v36 v37 v38 v39 v40 v41 0 0 0 0 0)), ((ad 13), .inl (cI, 2, .inl fT))]) [0, 1] rfl
  refine vp_callSi (va_runV (As := []) (rest := [.int 0]) ⟨hx, hb, hml, hown, hts⟩ (m_many l D cI cB cL cZ a0 ad v3 v6 v7 v8 v9 v36 v37 v38 v39 v40 v41 vN fT hf_fT_0) (cwV 0 hts gX12_regret_X12_many rfl rfl rfl (by decide +kernel) ⟨Nat.le_of_ble_eq_true rfl, Nat.le_of_ble_eq_true rfl⟩) ⟨xr_blind, va_recv hK hPc (ci := 12) (q0 := 0) rfl rfl, fun U hU hW => xr_mk hU hW hPc hK⟩ rfl rfl hl.1 rfl (lv_room (Nat.le_of_ble_eq_true rfl)) dX12_regret_6 ⟨Nat.le_of_ble_eq_true rfl, Nat.le_of_ble_eq_true rfl⟩).run (fun r_1 hr_1 => ?_)
  clear hPc
  subst hr_1
  refine lv_icmp_ge (tgt := 57) hx hb dX12_regret_9 (by decide) (fun _ => ?_) (fun c_2 => absurd (by decide) c_2)
  refine lv_iload_n hx hb dX12_regret_57 rfl (lv_at hl 1 rfl) ?_
  exact W.iret (v := 0) hx hb hr (fun t ht hW => ⟨0, rfl, rfl, ht⟩) (fun q hq => by cases hq) dX12_regret_58
set_option maxHeartbeats 4000000 in
set_option maxRecDepth 100000 in
theorem m_trade (l : Launch) (D : va_G) (cI : ClassId) (cB : ClassId) (cL : ClassId) (cZ : ClassId) (a0 : Nat) (ad : Nat → Nat) (v3 : Int32) (v6 : Int32) (v7 : Int32) (v8 : Int32) (v9 : Int32) (v36 : Int32) (v37 : Int32) (v38 : Int32) (v39 : Int32) (v40 : Int32) (v41 : Int32) (vN : Int64) (fT : Nat → Int32) (x : Int32) (hf_fT_0 : fT 0 = 0) : Met l yX12_trade wsX12_trade ({ frames := 1, cells := 0, slots := 0, locals := 22 }) (xr D [(cI, .int), (cB, .byte), (cL, .long), (cZ, .boolean)] [(a0, .inr (12, MF ad 0 v3 0 (-1) v6 v7 v8 v9 vN 0 v36 v37 v38 v39 v40 v41 0 0 0 0 0)), ((ad 13), .inl (cI, 2, .inl fT))] [.ref a0, .int x]) (vp_Si (fun r => r = (-1))) 0 0 (fun _ => False) := by
  refine Met.ofW (cc := cX12_trade) (maxL := 5) (ret := (some .int)) (by decide) rfl ?_
  intro p e s m args below meth c s₁ B hml hv
  obtain ⟨rfl, hP, hK⟩ := hv
  have hx := B.exec
  have hb := B.bytes
  have hr := B.returns
  have hts := atoms_spec (ws := wsX12_trade) B.pre
  have hown : s.vm.findClass RX12 = some m.cls := findClass_of_methodNamed B.named
  have hlocks := B.notSynchronized
  have hl := lv_entry ([.ref a0, .int x]) (n := 5) (Nat.le_of_ble_eq_true rfl)
  rw [lg_entry_eq]
  generalize (lg_sl ([.ref a0, .int x]) ++ List.replicate (5 - (lg_sl ([.ref a0, .int x])).length) Slot.unset).toArray = ls at hl ⊢
  replace hl : lv_has ls 5 [(0, .ref a0), (1, .int x)] := hl
  refine lv_iload_n hx hb dX12_trade_0 rfl (lv_at hl 1 rfl) ?_
  refine lv_iconst (v := 0) hx hb dX12_trade_1 (by decide) ?_
  refine lv_iconst (v := 2) hx hb dX12_trade_2 (by decide) ?_
  have hPc := hP.sub (ws' := []) [] rfl
  refine vp_callSi (va_runS (As := [.int x, .int 0, .int 2]) (rest := []) ⟨hx, hb, hml, hown, hts⟩ (m_isIn l D cI cB cL cZ x 0 2) (va_cwS 3 hts gX12_trade_X12_isIn rfl rfl rfl (by decide +kernel) ⟨Nat.le_of_ble_eq_true rfl, Nat.le_of_ble_eq_true rfl⟩) ⟨xr_blind, fun U hU hW => xr_mk hU hW hPc hK⟩ rfl rfl hl.1 rfl (lv_room (Nat.le_of_ble_eq_true rfl)) dX12_trade_3 ⟨Nat.le_of_ble_eq_true rfl, Nat.le_of_ble_eq_true rfl⟩).run (fun r_1 hr_1 => ?_)
  clear hPc
  rcases hr_1 with ⟨rfl, hr_1_0, hr_1_1⟩ | ⟨rfl, hr_1_0⟩ | ⟨rfl, hr_1_0, hr_1_1⟩
  · refine lv_if_ne (tgt := 11) hx hb dX12_trade_6 (by decide) (fun _ => ?_) (fun c_2 => absurd c_2 (by decide))
    refine lv_iconst (v := (-1)) hx hb dX12_trade_11 (by decide) ?_
    refine lv_istore_n (lv' := [(2, .int (-1)), (0, .ref a0), (1, .int x)]) hx hb dX12_trade_12 rfl hl (by decide) rfl (fun ls hl => ?_)
    refine lv_iconst (v := (-1)) hx hb dX12_trade_13 (by decide) ?_
    refine lv_istore_n (lv' := [(3, .int (-1)), (2, .int (-1)), (0, .ref a0), (1, .int x)]) hx hb dX12_trade_14 rfl hl (by decide) rfl (fun ls hl => ?_)
    refine lv_iconst (v := 0) hx hb dX12_trade_15 (by decide) ?_
    refine lv_istore (lv' := [(4, .int 0), (3, .int (-1)), (2, .int (-1)), (0, .ref a0), (1, .int x)]) hx hb dX12_trade_16 hl (by decide) rfl (fun ls hl => ?_)
    refine lv_iload hx hb dX12_trade_18 (lv_at hl 0 rfl) ?_
    refine lv_bipush (v := 36) hx hb dX12_trade_20 (by decide) ?_
    refine lv_icmp_ge (tgt := 94) hx hb dX12_trade_22 (by decide) (fun c_3 => absurd c_3 (by decide)) (fun _ => ?_)
    refine lv_iload hx hb dX12_trade_25 (lv_at hl 0 rfl) ?_
    refine lv_bipush (v := 6) hx hb dX12_trade_27 (by decide) ?_
    refine lv_idiv hx hb dX12_trade_29 (by decide) ?_
    refine lv_topi (fun y_4 ey_4 => ?_)
    obtain rfl : y_4 = 0 := ey_4.trans (by decide)
    refine lv_aload_n hx hb dX12_trade_30 rfl (lv_at hl 3 rfl) ?_
    have hPc := hP.sub (ws' := [(a0, .inr (12, MF ad 0 v3 0 (-1) v6 v7 v8 v9 vN 0 v36 v37 v38 v39 v40 v41 0 0 0 0 0)), ((ad 13), .inl (cI, 2, .inl fT))]) [0, 1] rfl
    refine vp_callSi (va_runV (As := []) (rest := [.int 0]) ⟨hx, hb, hml, hown, hts⟩ (m_many l D cI cB cL cZ a0 ad v3 v6 v7 v8 v9 v36 v37 v38 v39 v40 v41 vN fT hf_fT_0) (cwV 0 hts gX12_trade_X12_many rfl rfl rfl (by decide +kernel) ⟨Nat.le_of_ble_eq_true rfl, Nat.le_of_ble_eq_true rfl⟩) ⟨xr_blind, va_recv hK hPc (ci := 12) (q0 := 0) rfl rfl, fun U hU hW => xr_mk hU hW hPc hK⟩ rfl rfl hl.1 rfl (lv_room (Nat.le_of_ble_eq_true rfl)) dX12_trade_31 ⟨Nat.le_of_ble_eq_true rfl, Nat.le_of_ble_eq_true rfl⟩).run (fun r_5 hr_5 => ?_)
    clear hPc
    subst hr_5
    refine lv_icmp_ge (tgt := 88) hx hb dX12_trade_34 (by decide) (fun _ => ?_) (fun c_6 => absurd (by decide) c_6)
    refine lv_iinc (v := 1) (lv' := [(4, .int 1), (3, .int (-1)), (2, .int (-1)), (0, .ref a0), (1, .int x)]) hx hb dX12_trade_88 hl (k := 0) rfl (by decide) (by decide) rfl (fun ls hl => ?_)
    refine lv_goto (tgt := 18) hx hb dX12_trade_91 (by decide) ?_
    refine lv_iload hx hb dX12_trade_18 (lv_at hl 0 rfl) ?_
    refine lv_bipush (v := 36) hx hb dX12_trade_20 (by decide) ?_
    refine lv_icmp_ge (tgt := 94) hx hb dX12_trade_22 (by decide) (fun c_7 => absurd c_7 (by decide)) (fun _ => ?_)
    refine lv_iload hx hb dX12_trade_25 (lv_at hl 0 rfl) ?_
    refine lv_bipush (v := 6) hx hb dX12_trade_27 (by decide) ?_
    refine lv_idiv hx hb dX12_trade_29 (by decide) ?_
    refine lv_topi (fun y_8 ey_8 => ?_)
    obtain rfl : y_8 = 0 := ey_8.trans (by decide)
    refine lv_aload_n hx hb dX12_trade_30 rfl (lv_at hl 3 rfl) ?_
    have hPc := hP.sub (ws' := [(a0, .inr (12, MF ad 0 v3 0 (-1) v6 v7 v8 v9 vN 0 v36 v37 v38 v39 v40 v41 0 0 0 0 0)), ((ad 13), .inl (cI, 2, .inl fT))]) [0, 1] rfl
    refine vp_callSi (va_runV (As := []) (rest := [.int 0]) ⟨hx, hb, hml, hown, hts⟩ (m_many l D cI cB cL cZ a0 ad v3 v6 v7 v8 v9 v36 v37 v38 v39 v40 v41 vN fT hf_fT_0) (cwV 0 hts gX12_trade_X12_many rfl rfl rfl (by decide +kernel) ⟨Nat.le_of_ble_eq_true rfl, Nat.le_of_ble_eq_true rfl⟩) ⟨xr_blind, va_recv hK hPc (ci := 12) (q0 := 0) rfl rfl, fun U hU hW => xr_mk hU hW hPc hK⟩ rfl rfl hl.1 rfl (lv_room (Nat.le_of_ble_eq_true rfl)) dX12_trade_31 ⟨Nat.le_of_ble_eq_true rfl, Nat.le_of_ble_eq_true rfl⟩).run (fun r_9 hr_9 => ?_)
    clear hPc
    subst hr_9
    refine lv_icmp_ge (tgt := 88) hx hb dX12_trade_34 (by decide) (fun _ => ?_) (fun c_10 => absurd (by decide) c_10)
    refine lv_iinc (v := 2) (lv' := [(4, .int 2), (3, .int (-1)), (2, .int (-1)), (0, .ref a0), (1, .int x)]) hx hb dX12_trade_88 hl (k := 0) rfl (by decide) (by decide) rfl (fun ls hl => ?_)
    refine lv_goto (tgt := 18) hx hb dX12_trade_91 (by decide) ?_
    refine lv_iload hx hb dX12_trade_18 (lv_at hl 0 rfl) ?_
    refine lv_bipush (v := 36) hx hb dX12_trade_20 (by decide) ?_
    refine lv_icmp_ge (tgt := 94) hx hb dX12_trade_22 (by decide) (fun c_11 => absurd c_11 (by decide)) (fun _ => ?_)
    refine lv_iload hx hb dX12_trade_25 (lv_at hl 0 rfl) ?_
    refine lv_bipush (v := 6) hx hb dX12_trade_27 (by decide) ?_
    refine lv_idiv hx hb dX12_trade_29 (by decide) ?_
    refine lv_topi (fun y_12 ey_12 => ?_)
    obtain rfl : y_12 = 0 := ey_12.trans (by decide)
    refine lv_aload_n hx hb dX12_trade_30 rfl (lv_at hl 3 rfl) ?_
    have hPc := hP.sub (ws' := [(a0, .inr (12, MF ad 0 v3 0 (-1) v6 v7 v8 v9 vN 0 v36 v37 v38 v39 v40 v41 0 0 0 0 0)), ((ad 13), .inl (cI, 2, .inl fT))]) [0, 1] rfl
    refine vp_callSi (va_runV (As := []) (rest := [.int 0]) ⟨hx, hb, hml, hown, hts⟩ (m_many l D cI cB cL cZ a0 ad v3 v6 v7 v8 v9 v36 v37 v38 v39 v40 v41 vN fT hf_fT_0) (cwV 0 hts gX12_trade_X12_many rfl rfl rfl (by decide +kernel) ⟨Nat.le_of_ble_eq_true rfl, Nat.le_of_ble_eq_true rfl⟩) ⟨xr_blind, va_recv hK hPc (ci := 12) (q0 := 0) rfl rfl, fun U hU hW => xr_mk hU hW hPc hK⟩ rfl rfl hl.1 rfl (lv_room (Nat.le_of_ble_eq_true rfl)) dX12_trade_31 ⟨Nat.le_of_ble_eq_true rfl, Nat.le_of_ble_eq_true rfl⟩).run (fun r_13 hr_13 => ?_)
    clear hPc
    subst hr_13
    refine lv_icmp_ge (tgt := 88) hx hb dX12_trade_34 (by decide) (fun _ => ?_) (fun c_14 => absurd (by decide) c_14)
    refine lv_iinc (v := 3) (lv' := [(4, .int 3), (3, .int (-1)), (2, .int (-1)), (0, .ref a0), (1, .int x)]) hx hb dX12_trade_88 hl (k := 0) rfl (by decide) (by decide) rfl (fun ls hl => ?_)
    refine lv_goto (tgt := 18) hx hb dX12_trade_91 (by decide) ?_
    refine lv_iload hx hb dX12_trade_18 (lv_at hl 0 rfl) ?_
    refine lv_bipush (v := 36) hx hb dX12_trade_20 (by decide) ?_
    refine lv_icmp_ge (tgt := 94) hx hb dX12_trade_22 (by decide) (fun c_15 => absurd c_15 (by decide)) (fun _ => ?_)
    refine lv_iload hx hb dX12_trade_25 (lv_at hl 0 rfl) ?_
    refine lv_bipush (v := 6) hx hb dX12_trade_27 (by decide) ?_
    refine lv_idiv hx hb dX12_trade_29 (by decide) ?_
    refine lv_topi (fun y_16 ey_16 => ?_)
    obtain rfl : y_16 = 0 := ey_16.trans (by decide)
    refine lv_aload_n hx hb dX12_trade_30 rfl (lv_at hl 3 rfl) ?_
    have hPc := hP.sub (ws' := [(a0, .inr (12, MF ad 0 v3 0 (-1) v6 v7 v8 v9 vN 0 v36 v37 v38 v39 v40 v41 0 0 0 0 0)), ((ad 13), .inl (cI, 2, .inl fT))]) [0, 1] rfl
    refine vp_callSi (va_runV (As := []) (rest := [.int 0]) ⟨hx, hb, hml, hown, hts⟩ (m_many l D cI cB cL cZ a0 ad v3 v6 v7 v8 v9 v36 v37 v38 v39 v40 v41 vN fT hf_fT_0) (cwV 0 hts gX12_trade_X12_many rfl rfl rfl (by decide +kernel) ⟨Nat.le_of_ble_eq_true rfl, Nat.le_of_ble_eq_true rfl⟩) ⟨xr_blind, va_recv hK hPc (ci := 12) (q0 := 0) rfl rfl, fun U hU hW => xr_mk hU hW hPc hK⟩ rfl rfl hl.1 rfl (lv_room (Nat.le_of_ble_eq_true rfl)) dX12_trade_31 ⟨Nat.le_of_ble_eq_true rfl, Nat.le_of_ble_eq_true rfl⟩).run (fun r_17 hr_17 => ?_)
    clear hPc
    subst hr_17
    refine lv_icmp_ge (tgt := 88) hx hb dX12_trade_34 (by decide) (fun _ => ?_) (fun c_18 => absurd (by decide) c_18)
    refine lv_iinc (v := 4) (lv' := [(4, .int 4), (3, .int (-1)), (2, .int (-1)), (0, .ref a0), (1, .int x)]) hx hb dX12_trade_88 hl (k := 0) rfl (by decide) (by decide) rfl (fun ls hl => ?_)
    refine lv_goto (tgt := 18) hx hb dX12_trade_91 (by decide) ?_
    refine lv_iload hx hb dX12_trade_18 (lv_at hl 0 rfl) ?_
    refine lv_bipush (v := 36) hx hb dX12_trade_20 (by decide) ?_
    refine lv_icmp_ge (tgt := 94) hx hb dX12_trade_22 (by decide) (fun c_19 => absurd c_19 (by decide)) (fun _ => ?_)
    refine lv_iload hx hb dX12_trade_25 (lv_at hl 0 rfl) ?_
    refine lv_bipush (v := 6) hx hb dX12_trade_27 (by decide) ?_
    refine lv_idiv hx hb dX12_trade_29 (by decide) ?_
    refine lv_topi (fun y_20 ey_20 => ?_)
    obtain rfl : y_20 = 0 := ey_20.trans (by decide)
    refine lv_aload_n hx hb dX12_trade_30 rfl (lv_at hl 3 rfl) ?_
    have hPc := hP.sub (ws' := [(a0, .inr (12, MF ad 0 v3 0 (-1) v6 v7 v8 v9 vN 0 v36 v37 v38 v39 v40 v41 0 0 0 0 0)), ((ad 13), .inl (cI, 2, .inl fT))]) [0, 1] rfl
    refine vp_callSi (va_runV (As := []) (rest := [.int 0]) ⟨hx, hb, hml, hown, hts⟩ (m_many l D cI cB cL cZ a0 ad v3 v6 v7 v8 v9 v36 v37 v38 v39 v40 v41 vN fT hf_fT_0) (cwV 0 hts gX12_trade_X12_many rfl rfl rfl (by decide +kernel) ⟨Nat.le_of_ble_eq_true rfl, Nat.le_of_ble_eq_true rfl⟩) ⟨xr_blind, va_recv hK hPc (ci := 12) (q0 := 0) rfl rfl, fun U hU hW => xr_mk hU hW hPc hK⟩ rfl rfl hl.1 rfl (lv_room (Nat.le_of_ble_eq_true rfl)) dX12_trade_31 ⟨Nat.le_of_ble_eq_true rfl, Nat.le_of_ble_eq_true rfl⟩).run (fun r_21 hr_21 => ?_)
    clear hPc
    subst hr_21
    refine lv_icmp_ge (tgt := 88) hx hb dX12_trade_34 (by decide) (fun _ => ?_) (fun c_22 => absurd (by decide) c_22)
    refine lv_iinc (v := 5) (lv' := [(4, .int 5), (3, .int (-1)), (2, .int (-1)), (0, .ref a0), (1, .int x)]) hx hb dX12_trade_88 hl (k := 0) rfl (by decide) (by decide) rfl (fun ls hl => ?_)
    refine lv_goto (tgt := 18) hx hb dX12_trade_91 (by decide) ?_
    refine lv_iload hx hb dX12_trade_18 (lv_at hl 0 rfl) ?_
    refine lv_bipush (v := 36) hx hb dX12_trade_20 (by decide) ?_
    refine lv_icmp_ge (tgt := 94) hx hb dX12_trade_22 (by decide) (fun c_23 => absurd c_23 (by decide)) (fun _ => ?_)
    refine lv_iload hx hb dX12_trade_25 (lv_at hl 0 rfl) ?_
    refine lv_bipush (v := 6) hx hb dX12_trade_27 (by decide) ?_
    refine lv_idiv hx hb dX12_trade_29 (by decide) ?_
    refine lv_topi (fun y_24 ey_24 => ?_)
    obtain rfl : y_24 = 0 := ey_24.trans (by decide)
    refine lv_aload_n hx hb dX12_trade_30 rfl (lv_at hl 3 rfl) ?_
    have hPc := hP.sub (ws' := [(a0, .inr (12, MF ad 0 v3 0 (-1) v6 v7 v8 v9 vN 0 v36 v37 v38 v39 v40 v41 0 0 0 0 0)), ((ad 13), .inl (cI, 2, .inl fT))]) [0, 1] rfl
    refine vp_callSi (va_runV (As := []) (rest := [.int 0]) ⟨hx, hb, hml, hown, hts⟩ (m_many l D cI cB cL cZ a0 ad v3 v6 v7 v8 v9 v36 v37 v38 v39 v40 v41 vN fT hf_fT_0) (cwV 0 hts gX12_trade_X12_many rfl rfl rfl (by decide +kernel) ⟨Nat.le_of_ble_eq_true rfl, Nat.le_of_ble_eq_true rfl⟩) ⟨xr_blind, va_recv hK hPc (ci := 12) (q0 := 0) rfl rfl, fun U hU hW => xr_mk hU hW hPc hK⟩ rfl rfl hl.1 rfl (lv_room (Nat.le_of_ble_eq_true rfl)) dX12_trade_31 ⟨Nat.le_of_ble_eq_true rfl, Nat.le_of_ble_eq_true rfl⟩).run (fun r_25 hr_25 => ?_)
    clear hPc
    subst hr_25
    refine lv_icmp_ge (tgt := 88) hx hb dX12_trade_34 (by decide) (fun _ => ?_) (fun c_26 => absurd (by decide) c_26)
    refine lv_iinc (v := 6) (lv' := [(4, .int 6), (3, .int (-1)), (2, .int (-1)), (0, .ref a0), (1, .int x)]) hx hb dX12_trade_88 hl (k := 0) rfl (by decide) (by decide) rfl (fun ls hl => ?_)
    refine lv_goto (tgt := 18) hx hb dX12_trade_91 (by decide) ?_
    refine lv_iload hx hb dX12_trade_18 (lv_at hl 0 rfl) ?_
    refine lv_bipush (v := 36) hx hb dX12_trade_20 (by decide) ?_
    refine lv_icmp_ge (tgt := 94) hx hb dX12_trade_22 (by decide) (fun c_27 => absurd c_27 (by decide)) (fun _ => ?_)
    refine lv_iload hx hb dX12_trade_25 (lv_at hl 0 rfl) ?_
    refine lv_bipush (v := 6) hx hb dX12_trade_27 (by decide) ?_
    refine lv_idiv hx hb dX12_trade_29 (by decide) ?_
    refine lv_topi (fun y_28 ey_28 => ?_)
    obtain rfl : y_28 = 1 := ey_28.trans (by decide)
    refine lv_aload_n hx hb dX12_trade_30 rfl (lv_at hl 3 rfl) ?_
    have hPc := hP.sub (ws' := [(a0, .inr (12, MF ad 0 v3 0 (-1) v6 v7 v8 v9 vN 0 v36 v37 v38 v39 v40 v41 0 0 0 0 0)), ((ad 13), .inl (cI, 2, .inl fT))]) [0, 1] rfl
    refine vp_callSi (va_runV (As := []) (rest := [.int 1]) ⟨hx, hb, hml, hown, hts⟩ (m_many l D cI cB cL cZ a0 ad v3 v6 v7 v8 v9 v36 v37 v38 v39 v40 v41 vN fT hf_fT_0) (cwV 0 hts gX12_trade_X12_many rfl rfl rfl (by decide +kernel) ⟨Nat.le_of_ble_eq_true rfl, Nat.le_of_ble_eq_true rfl⟩) ⟨xr_blind, va_recv hK hPc (ci := 12) (q0 := 0) rfl rfl, fun U hU hW => xr_mk hU hW hPc hK⟩ rfl rfl hl.1 rfl (lv_room (Nat.le_of_ble_eq_true rfl)) dX12_trade_31 ⟨Nat.le_of_ble_eq_true rfl, Nat.le_of_ble_eq_true rfl⟩).run (fun r_29 hr_29 => ?_)
    clear hPc
    subst hr_29
    refine lv_icmp_ge (tgt := 88) hx hb dX12_trade_34 (by decide) (fun _ => ?_) (fun c_30 => absurd (by decide) c_30)
    refine lv_iinc (v := 7) (lv' := [(4, .int 7), (3, .int (-1)), (2, .int (-1)), (0, .ref a0), (1, .int x)]) hx hb dX12_trade_88 hl (k := 0) rfl (by decide) (by decide) rfl (fun ls hl => ?_)
    refine lv_goto (tgt := 18) hx hb dX12_trade_91 (by decide) ?_
    refine lv_iload hx hb dX12_trade_18 (lv_at hl 0 rfl) ?_
    refine lv_bipush (v := 36) hx hb dX12_trade_20 (by decide) ?_
    refine lv_icmp_ge (tgt := 94) hx hb dX12_trade_22 (by decide) (fun c_31 => absurd c_31 (by decide)) (fun _ => ?_)
    refine lv_iload hx hb dX12_trade_25 (lv_at hl 0 rfl) ?_
    refine lv_bipush (v := 6) hx hb dX12_trade_27 (by decide) ?_
    refine lv_idiv hx hb dX12_trade_29 (by decide) ?_
    refine lv_topi (fun y_32 ey_32 => ?_)
    obtain rfl : y_32 = 1 := ey_32.trans (by decide)
    refine lv_aload_n hx hb dX12_trade_30 rfl (lv_at hl 3 rfl) ?_
    have hPc := hP.sub (ws' := [(a0, .inr (12, MF ad 0 v3 0 (-1) v6 v7 v8 v9 vN 0 v36 v37 v38 v39 v40 v41 0 0 0 0 0)), ((ad 13), .inl (cI, 2, .inl fT))]) [0, 1] rfl
    refine vp_callSi (va_runV (As := []) (rest := [.int 1]) ⟨hx, hb, hml, hown, hts⟩ (m_many l D cI cB cL cZ a0 ad v3 v6 v7 v8 v9 v36 v37 v38 v39 v40 v41 vN fT hf_fT_0) (cwV 0 hts gX12_trade_X12_many rfl rfl rfl (by decide +kernel) ⟨Nat.le_of_ble_eq_true rfl, Nat.le_of_ble_eq_true rfl⟩) ⟨xr_blind, va_recv hK hPc (ci := 12) (q0 := 0) rfl rfl, fun U hU hW => xr_mk hU hW hPc hK⟩ rfl rfl hl.1 rfl (lv_room (Nat.le_of_ble_eq_true rfl)) dX12_trade_31 ⟨Nat.le_of_ble_eq_true rfl, Nat.le_of_ble_eq_true rfl⟩).run (fun r_33 hr_33 => ?_)
    clear hPc
    subst hr_33
    refine lv_icmp_ge (tgt := 88) hx hb dX12_trade_34 (by decide) (fun _ => ?_) (fun c_34 => absurd (by decide) c_34)
    refine lv_iinc (v := 8) (lv' := [(4, .int 8), (3, .int (-1)), (2, .int (-1)), (0, .ref a0), (1, .int x)]) hx hb dX12_trade_88 hl (k := 0) rfl (by decide) (by decide) rfl (fun ls hl => ?_)
    refine lv_goto (tgt := 18) hx hb dX12_trade_91 (by decide) ?_
    refine lv_iload hx hb dX12_trade_18 (lv_at hl 0 rfl) ?_
    refine lv_bipush (v := 36) hx hb dX12_trade_20 (by decide) ?_
    refine lv_icmp_ge (tgt := 94) hx hb dX12_trade_22 (by decide) (fun c_35 => absurd c_35 (by decide)) (fun _ => ?_)
    refine lv_iload hx hb dX12_trade_25 (lv_at hl 0 rfl) ?_
    refine lv_bipush (v := 6) hx hb dX12_trade_27 (by decide) ?_
    refine lv_idiv hx hb dX12_trade_29 (by decide) ?_
    refine lv_topi (fun y_36 ey_36 => ?_)
    obtain rfl : y_36 = 1 := ey_36.trans (by decide)
    refine lv_aload_n hx hb dX12_trade_30 rfl (lv_at hl 3 rfl) ?_
    have hPc := hP.sub (ws' := [(a0, .inr (12, MF ad 0 v3 0 (-1) v6 v7 v8 v9 vN 0 v36 v37 v38 v39 v40 v41 0 0 0 0 0)), ((ad 13), .inl (cI, 2, .inl fT))]) [0, 1] rfl
    refine vp_callSi (va_runV (As := []) (rest := [.int 1]) ⟨hx, hb, hml, hown, hts⟩ (m_many l D cI cB cL cZ a0 ad v3 v6 v7 v8 v9 v36 v37 v38 v39 v40 v41 vN fT hf_fT_0) (cwV 0 hts gX12_trade_X12_many rfl rfl rfl (by decide +kernel) ⟨Nat.le_of_ble_eq_true rfl, Nat.le_of_ble_eq_true rfl⟩) ⟨xr_blind, va_recv hK hPc (ci := 12) (q0 := 0) rfl rfl, fun U hU hW => xr_mk hU hW hPc hK⟩ rfl rfl hl.1 rfl (lv_room (Nat.le_of_ble_eq_true rfl)) dX12_trade_31 ⟨Nat.le_of_ble_eq_true rfl, Nat.le_of_ble_eq_true rfl⟩).run (fun r_37 hr_37 => ?_)
    clear hPc
    subst hr_37
    refine lv_icmp_ge (tgt := 88) hx hb dX12_trade_34 (by decide) (fun _ => ?_) (fun c_38 => absurd (by decide) c_38)
    refine lv_iinc (v := 9) (lv' := [(4, .int 9), (3, .int (-1)), (2, .int (-1)), (0, .ref a0), (1, .int x)]) hx hb dX12_trade_88 hl (k := 0) rfl (by decide) (by decide) rfl (fun ls hl => ?_)
    refine lv_goto (tgt := 18) hx hb dX12_trade_91 (by decide) ?_
    refine lv_iload hx hb dX12_trade_18 (lv_at hl 0 rfl) ?_
    refine lv_bipush (v := 36) hx hb dX12_trade_20 (by decide) ?_
    refine lv_icmp_ge (tgt := 94) hx hb dX12_trade_22 (by decide) (fun c_39 => absurd c_39 (by decide)) (fun _ => ?_)
    refine lv_iload hx hb dX12_trade_25 (lv_at hl 0 rfl) ?_
    refine lv_bipush (v := 6) hx hb dX12_trade_27 (by decide) ?_
    refine lv_idiv hx hb dX12_trade_29 (by decide) ?_
    refine lv_topi (fun y_40 ey_40 => ?_)
    obtain rfl : y_40 = 1 := ey_40.trans (by decide)
    refine lv_aload_n hx hb dX12_trade_30 rfl (lv_at hl 3 rfl) ?_
    have hPc := hP.sub (ws' := [(a0, .inr (12, MF ad 0 v3 0 (-1) v6 v7 v8 v9 vN 0 v36 v37 v38 v39 v40 v41 0 0 0 0 0)), ((ad 13), .inl (cI, 2, .inl fT))]) [0, 1] rfl
    refine vp_callSi (va_runV (As := []) (rest := [.int 1]) ⟨hx, hb, hml, hown, hts⟩ (m_many l D cI cB cL cZ a0 ad v3 v6 v7 v8 v9 v36 v37 v38 v39 v40 v41 vN fT hf_fT_0) (cwV 0 hts gX12_trade_X12_many rfl rfl rfl (by decide +kernel) ⟨Nat.le_of_ble_eq_true rfl, Nat.le_of_ble_eq_true rfl⟩) ⟨xr_blind, va_recv hK hPc (ci := 12) (q0 := 0) rfl rfl, fun U hU hW => xr_mk hU hW hPc hK⟩ rfl rfl hl.1 rfl (lv_room (Nat.le_of_ble_eq_true rfl)) dX12_trade_31 ⟨Nat.le_of_ble_eq_true rfl, Nat.le_of_ble_eq_true rfl⟩).run (fun r_41 hr_41 => ?_)
    clear hPc
    subst hr_41
    refine lv_icmp_ge (tgt := 88) hx hb dX12_trade_34 (by decide) (fun _ => ?_) (fun c_42 => absurd (by decide) c_42)
    refine lv_iinc (v := 10) (lv' := [(4, .int 10), (3, .int (-1)), (2, .int (-1)), (0, .ref a0), (1, .int x)]) hx hb dX12_trade_88 hl (k := 0) rfl (by decide) (by decide) rfl (fun ls hl => ?_)
    refine lv_goto (tgt := 18) hx hb dX12_trade_91 (by decide) ?_
    refine lv_iload hx hb dX12_trade_18 (lv_at hl 0 rfl) ?_
    refine lv_bipush (v := 36) hx hb dX12_trade_20 (by decide) ?_
    refine lv_icmp_ge (tgt := 94) hx hb dX12_trade_22 (by decide) (fun c_43 => absurd c_43 (by decide)) (fun _ => ?_)
    refine lv_iload hx hb dX12_trade_25 (lv_at hl 0 rfl) ?_
    refine lv_bipush (v := 6) hx hb dX12_trade_27 (by decide) ?_
    refine lv_idiv hx hb dX12_trade_29 (by decide) ?_
    refine lv_topi (fun y_44 ey_44 => ?_)
    obtain rfl : y_44 = 1 := ey_44.trans (by decide)
    refine lv_aload_n hx hb dX12_trade_30 rfl (lv_at hl 3 rfl) ?_
    have hPc := hP.sub (ws' := [(a0, .inr (12, MF ad 0 v3 0 (-1) v6 v7 v8 v9 vN 0 v36 v37 v38 v39 v40 v41 0 0 0 0 0)), ((ad 13), .inl (cI, 2, .inl fT))]) [0, 1] rfl
    refine vp_callSi (va_runV (As := []) (rest := [.int 1]) ⟨hx, hb, hml, hown, hts⟩ (m_many l D cI cB cL cZ a0 ad v3 v6 v7 v8 v9 v36 v37 v38 v39 v40 v41 vN fT hf_fT_0) (cwV 0 hts gX12_trade_X12_many rfl rfl rfl (by decide +kernel) ⟨Nat.le_of_ble_eq_true rfl, Nat.le_of_ble_eq_true rfl⟩) ⟨xr_blind, va_recv hK hPc (ci := 12) (q0 := 0) rfl rfl, fun U hU hW => xr_mk hU hW hPc hK⟩ rfl rfl hl.1 rfl (lv_room (Nat.le_of_ble_eq_true rfl)) dX12_trade_31 ⟨Nat.le_of_ble_eq_true rfl, Nat.le_of_ble_eq_true rfl⟩).run (fun r_45 hr_45 => ?_)
    clear hPc
    subst hr_45
    refine lv_icmp_ge (tgt := 88) hx hb dX12_trade_34 (by decide) (fun _ => ?_) (fun c_46 => absurd (by decide) c_46)
    refine lv_iinc (v := 11) (lv' := [(4, .int 11), (3, .int (-1)), (2, .int (-1)), (0, .ref a0), (1, .int x)]) hx hb dX12_trade_88 hl (k := 0) rfl (by decide) (by decide) rfl (fun ls hl => ?_)
    refine lv_goto (tgt := 18) hx hb dX12_trade_91 (by decide) ?_
    refine lv_iload hx hb dX12_trade_18 (lv_at hl 0 rfl) ?_
    refine lv_bipush (v := 36) hx hb dX12_trade_20 (by decide) ?_
    refine lv_icmp_ge (tgt := 94) hx hb dX12_trade_22 (by decide) (fun c_47 => absurd c_47 (by decide)) (fun _ => ?_)
    refine lv_iload hx hb dX12_trade_25 (lv_at hl 0 rfl) ?_
    refine lv_bipush (v := 6) hx hb dX12_trade_27 (by decide) ?_
    refine lv_idiv hx hb dX12_trade_29 (by decide) ?_
    refine lv_topi (fun y_48 ey_48 => ?_)
    obtain rfl : y_48 = 1 := ey_48.trans (by decide)
    refine lv_aload_n hx hb dX12_trade_30 rfl (lv_at hl 3 rfl) ?_
    have hPc := hP.sub (ws' := [(a0, .inr (12, MF ad 0 v3 0 (-1) v6 v7 v8 v9 vN 0 v36 v37 v38 v39 v40 v41 0 0 0 0 0)), ((ad 13), .inl (cI, 2, .inl fT))]) [0, 1] rfl
    refine vp_callSi (va_runV (As := []) (rest := [.int 1]) ⟨hx, hb, hml, hown, hts⟩ (m_many l D cI cB cL cZ a0 ad v3 v6 v7 v8 v9 v36 v37 v38 v39 v40 v41 vN fT hf_fT_0) (cwV 0 hts gX12_trade_X12_many rfl rfl rfl (by decide +kernel) ⟨Nat.le_of_ble_eq_true rfl, Nat.le_of_ble_eq_true rfl⟩) ⟨xr_blind, va_recv hK hPc (ci := 12) (q0 := 0) rfl rfl, fun U hU hW => xr_mk hU hW hPc hK⟩ rfl rfl hl.1 rfl (lv_room (Nat.le_of_ble_eq_true rfl)) dX12_trade_31 ⟨Nat.le_of_ble_eq_true rfl, Nat.le_of_ble_eq_true rfl⟩).run (fun r_49 hr_49 => ?_)
    clear hPc
    subst hr_49
    refine lv_icmp_ge (tgt := 88) hx hb dX12_trade_34 (by decide) (fun _ => ?_) (fun c_50 => absurd (by decide) c_50)
    refine lv_iinc (v := 12) (lv' := [(4, .int 12), (3, .int (-1)), (2, .int (-1)), (0, .ref a0), (1, .int x)]) hx hb dX12_trade_88 hl (k := 0) rfl (by decide) (by decide) rfl (fun ls hl => ?_)
    refine lv_goto (tgt := 18) hx hb dX12_trade_91 (by decide) ?_
    refine lv_iload hx hb dX12_trade_18 (lv_at hl 0 rfl) ?_
    refine lv_bipush (v := 36) hx hb dX12_trade_20 (by decide) ?_
    refine lv_icmp_ge (tgt := 94) hx hb dX12_trade_22 (by decide) (fun c_51 => absurd c_51 (by decide)) (fun _ => ?_)
    refine lv_iload hx hb dX12_trade_25 (lv_at hl 0 rfl) ?_
    refine lv_bipush (v := 6) hx hb dX12_trade_27 (by decide) ?_
    refine lv_idiv hx hb dX12_trade_29 (by decide) ?_
    refine lv_topi (fun y_52 ey_52 => ?_)
    obtain rfl : y_52 = 2 := ey_52.trans (by decide)
    refine lv_aload_n hx hb dX12_trade_30 rfl (lv_at hl 3 rfl) ?_
    have hPc := hP.sub (ws' := [(a0, .inr (12, MF ad 0 v3 0 (-1) v6 v7 v8 v9 vN 0 v36 v37 v38 v39 v40 v41 0 0 0 0 0)), ((ad 13), .inl (cI, 2, .inl fT))]) [0, 1] rfl
    refine vp_callSi (va_runV (As := []) (rest := [.int 2]) ⟨hx, hb, hml, hown, hts⟩ (m_many l D cI cB cL cZ a0 ad v3 v6 v7 v8 v9 v36 v37 v38 v39 v40 v41 vN fT hf_fT_0) (cwV 0 hts gX12_trade_X12_many rfl rfl rfl (by decide +kernel) ⟨Nat.le_of_ble_eq_true rfl, Nat.le_of_ble_eq_true rfl⟩) ⟨xr_blind, va_recv hK hPc (ci := 12) (q0 := 0) rfl rfl, fun U hU hW => xr_mk hU hW hPc hK⟩ rfl rfl hl.1 rfl (lv_room (Nat.le_of_ble_eq_true rfl)) dX12_trade_31 ⟨Nat.le_of_ble_eq_true rfl, Nat.le_of_ble_eq_true rfl⟩).run (fun r_53 hr_53 => ?_)
    clear hPc
    subst hr_53
    refine lv_icmp_ge (tgt := 88) hx hb dX12_trade_34 (by decide) (fun _ => ?_) (fun c_54 => absurd (by decide) c_54)
    refine lv_iinc (v := 13) (lv' := [(4, .int 13), (3, .int (-1)), (2, .int (-1)), (0, .ref a0), (1, .int x)]) hx hb dX12_trade_88 hl (k := 0) rfl (by decide) (by decide) rfl (fun ls hl => ?_)
    refine lv_goto (tgt := 18) hx hb dX12_trade_91 (by decide) ?_
    refine lv_iload hx hb dX12_trade_18 (lv_at hl 0 rfl) ?_
    refine lv_bipush (v := 36) hx hb dX12_trade_20 (by decide) ?_
    refine lv_icmp_ge (tgt := 94) hx hb dX12_trade_22 (by decide) (fun c_55 => absurd c_55 (by decide)) (fun _ => ?_)
    refine lv_iload hx hb dX12_trade_25 (lv_at hl 0 rfl) ?_
    refine lv_bipush (v := 6) hx hb dX12_trade_27 (by decide) ?_
    refine lv_idiv hx hb dX12_trade_29 (by decide) ?_
    refine lv_topi (fun y_56 ey_56 => ?_)
    obtain rfl : y_56 = 2 := ey_56.trans (by decide)
    refine lv_aload_n hx hb dX12_trade_30 rfl (lv_at hl 3 rfl) ?_
    have hPc := hP.sub (ws' := [(a0, .inr (12, MF ad 0 v3 0 (-1) v6 v7 v8 v9 vN 0 v36 v37 v38 v39 v40 v41 0 0 0 0 0)), ((ad 13), .inl (cI, 2, .inl fT))]) [0, 1] rfl
    refine vp_callSi (va_runV (As := []) (rest := [.int 2]) ⟨hx, hb, hml, hown, hts⟩ (m_many l D cI cB cL cZ a0 ad v3 v6 v7 v8 v9 v36 v37 v38 v39 v40 v41 vN fT hf_fT_0) (cwV 0 hts gX12_trade_X12_many rfl rfl rfl (by decide +kernel) ⟨Nat.le_of_ble_eq_true rfl, Nat.le_of_ble_eq_true rfl⟩) ⟨xr_blind, va_recv hK hPc (ci := 12) (q0 := 0) rfl rfl, fun U hU hW => xr_mk hU hW hPc hK⟩ rfl rfl hl.1 rfl (lv_room (Nat.le_of_ble_eq_true rfl)) dX12_trade_31 ⟨Nat.le_of_ble_eq_true rfl, Nat.le_of_ble_eq_true rfl⟩).run (fun r_57 hr_57 => ?_)
    clear hPc
    subst hr_57
    refine lv_icmp_ge (tgt := 88) hx hb dX12_trade_34 (by decide) (fun _ => ?_) (fun c_58 => absurd (by decide) c_58)
    refine lv_iinc (v := 14) (lv' := [(4, .int 14), (3, .int (-1)), (2, .int (-1)), (0, .ref a0), (1, .int x)]) hx hb dX12_trade_88 hl (k := 0) rfl (by decide) (by decide) rfl (fun ls hl => ?_)
    refine lv_goto (tgt := 18) hx hb dX12_trade_91 (by decide) ?_
    refine lv_iload hx hb dX12_trade_18 (lv_at hl 0 rfl) ?_
    refine lv_bipush (v := 36) hx hb dX12_trade_20 (by decide) ?_
    refine lv_icmp_ge (tgt := 94) hx hb dX12_trade_22 (by decide) (fun c_59 => absurd c_59 (by decide)) (fun _ => ?_)
    refine lv_iload hx hb dX12_trade_25 (lv_at hl 0 rfl) ?_
    refine lv_bipush (v := 6) hx hb dX12_trade_27 (by decide) ?_
    refine lv_idiv hx hb dX12_trade_29 (by decide) ?_
    refine lv_topi (fun y_60 ey_60 => ?_)
    obtain rfl : y_60 = 2 := ey_60.trans (by decide)
    refine lv_aload_n hx hb dX12_trade_30 rfl (lv_at hl 3 rfl) ?_
    have hPc := hP.sub (ws' := [(a0, .inr (12, MF ad 0 v3 0 (-1) v6 v7 v8 v9 vN 0 v36 v37 v38 v39 v40 v41 0 0 0 0 0)), ((ad 13), .inl (cI, 2, .inl fT))]) [0, 1] rfl
    refine vp_callSi (va_runV (As := []) (rest := [.int 2]) ⟨hx, hb, hml, hown, hts⟩ (m_many l D cI cB cL cZ a0 ad v3 v6 v7 v8 v9 v36 v37 v38 v39 v40 v41 vN fT hf_fT_0) (cwV 0 hts gX12_trade_X12_many rfl rfl rfl (by decide +kernel) ⟨Nat.le_of_ble_eq_true rfl, Nat.le_of_ble_eq_true rfl⟩) ⟨xr_blind, va_recv hK hPc (ci := 12) (q0 := 0) rfl rfl, fun U hU hW => xr_mk hU hW hPc hK⟩ rfl rfl hl.1 rfl (lv_room (Nat.le_of_ble_eq_true rfl)) dX12_trade_31 ⟨Nat.le_of_ble_eq_true rfl, Nat.le_of_ble_eq_true rfl⟩).run (fun r_61 hr_61 => ?_)
    clear hPc
    subst hr_61
    refine lv_icmp_ge (tgt := 88) hx hb dX12_trade_34 (by decide) (fun _ => ?_) (fun c_62 => absurd (by decide) c_62)
    refine lv_iinc (v := 15) (lv' := [(4, .int 15), (3, .int (-1)), (2, .int (-1)), (0, .ref a0), (1, .int x)]) hx hb dX12_trade_88 hl (k := 0) rfl (by decide) (by decide) rfl (fun ls hl => ?_)
    refine lv_goto (tgt := 18) hx hb dX12_trade_91 (by decide) ?_
    refine lv_iload hx hb dX12_trade_18 (lv_at hl 0 rfl) ?_
    refine lv_bipush (v := 36) hx hb dX12_trade_20 (by decide) ?_
    refine lv_icmp_ge (tgt := 94) hx hb dX12_trade_22 (by decide) (fun c_63 => absurd c_63 (by decide)) (fun _ => ?_)
    refine lv_iload hx hb dX12_trade_25 (lv_at hl 0 rfl) ?_
    refine lv_bipush (v := 6) hx hb dX12_trade_27 (by decide) ?_
    refine lv_idiv hx hb dX12_trade_29 (by decide) ?_
    refine lv_topi (fun y_64 ey_64 => ?_)
    obtain rfl : y_64 = 2 := ey_64.trans (by decide)
    refine lv_aload_n hx hb dX12_trade_30 rfl (lv_at hl 3 rfl) ?_
    have hPc := hP.sub (ws' := [(a0, .inr (12, MF ad 0 v3 0 (-1) v6 v7 v8 v9 vN 0 v36 v37 v38 v39 v40 v41 0 0 0 0 0)), ((ad 13), .inl (cI, 2, .inl fT))]) [0, 1] rfl
    refine vp_callSi (va_runV (As := []) (rest := [.int 2]) ⟨hx, hb, hml, hown, hts⟩ (m_many l D cI cB cL cZ a0 ad v3 v6 v7 v8 v9 v36 v37 v38 v39 v40 v41 vN fT hf_fT_0) (cwV 0 hts gX12_trade_X12_many rfl rfl rfl (by decide +kernel) ⟨Nat.le_of_ble_eq_true rfl, Nat.le_of_ble_eq_true rfl⟩) ⟨xr_blind, va_recv hK hPc (ci := 12) (q0 := 0) rfl rfl, fun U hU hW => xr_mk hU hW hPc hK⟩ rfl rfl hl.1 rfl (lv_room (Nat.le_of_ble_eq_true rfl)) dX12_trade_31 ⟨Nat.le_of_ble_eq_true rfl, Nat.le_of_ble_eq_true rfl⟩).run (fun r_65 hr_65 => ?_)
    clear hPc
    subst hr_65
    refine lv_icmp_ge (tgt := 88) hx hb dX12_trade_34 (by decide) (fun _ => ?_) (fun c_66 => absurd (by decide) c_66)
    refine lv_iinc (v := 16) (lv' := [(4, .int 16), (3, .int (-1)), (2, .int (-1)), (0, .ref a0), (1, .int x)]) hx hb dX12_trade_88 hl (k := 0) rfl (by decide) (by decide) rfl (fun ls hl => ?_)
    refine lv_goto (tgt := 18) hx hb dX12_trade_91 (by decide) ?_
    refine lv_iload hx hb dX12_trade_18 (lv_at hl 0 rfl) ?_
    refine lv_bipush (v := 36) hx hb dX12_trade_20 (by decide) ?_
    refine lv_icmp_ge (tgt := 94) hx hb dX12_trade_22 (by decide) (fun c_67 => absurd c_67 (by decide)) (fun _ => ?_)
    refine lv_iload hx hb dX12_trade_25 (lv_at hl 0 rfl) ?_
    refine lv_bipush (v := 6) hx hb dX12_trade_27 (by decide) ?_
    refine lv_idiv hx hb dX12_trade_29 (by decide) ?_
    refine lv_topi (fun y_68 ey_68 => ?_)
    obtain rfl : y_68 = 2 := ey_68.trans (by decide)
    refine lv_aload_n hx hb dX12_trade_30 rfl (lv_at hl 3 rfl) ?_
    have hPc := hP.sub (ws' := [(a0, .inr (12, MF ad 0 v3 0 (-1) v6 v7 v8 v9 vN 0 v36 v37 v38 v39 v40 v41 0 0 0 0 0)), ((ad 13), .inl (cI, 2, .inl fT))]) [0, 1] rfl
    refine vp_callSi (va_runV (As := []) (rest := [.int 2]) ⟨hx, hb, hml, hown, hts⟩ (m_many l D cI cB cL cZ a0 ad v3 v6 v7 v8 v9 v36 v37 v38 v39 v40 v41 vN fT hf_fT_0) (cwV 0 hts gX12_trade_X12_many rfl rfl rfl (by decide +kernel) ⟨Nat.le_of_ble_eq_true rfl, Nat.le_of_ble_eq_true rfl⟩) ⟨xr_blind, va_recv hK hPc (ci := 12) (q0 := 0) rfl rfl, fun U hU hW => xr_mk hU hW hPc hK⟩ rfl rfl hl.1 rfl (lv_room (Nat.le_of_ble_eq_true rfl)) dX12_trade_31 ⟨Nat.le_of_ble_eq_true rfl, Nat.le_of_ble_eq_true rfl⟩).run (fun r_69 hr_69 => ?_)
    clear hPc
    subst hr_69
    refine lv_icmp_ge (tgt := 88) hx hb dX12_trade_34 (by decide) (fun _ => ?_) (fun c_70 => absurd (by decide) c_70)
    refine lv_iinc (v := 17) (lv' := [(4, .int 17), (3, .int (-1)), (2, .int (-1)), (0, .ref a0), (1, .int x)]) hx hb dX12_trade_88 hl (k := 0) rfl (by decide) (by decide) rfl (fun ls hl => ?_)
    refine lv_goto (tgt := 18) hx hb dX12_trade_91 (by decide) ?_
    refine lv_iload hx hb dX12_trade_18 (lv_at hl 0 rfl) ?_
    refine lv_bipush (v := 36) hx hb dX12_trade_20 (by decide) ?_
    refine lv_icmp_ge (tgt := 94) hx hb dX12_trade_22 (by decide) (fun c_71 => absurd c_71 (by decide)) (fun _ => ?_)
    refine lv_iload hx hb dX12_trade_25 (lv_at hl 0 rfl) ?_
    refine lv_bipush (v := 6) hx hb dX12_trade_27 (by decide) ?_
    refine lv_idiv hx hb dX12_trade_29 (by decide) ?_
    refine lv_topi (fun y_72 ey_72 => ?_)
    obtain rfl : y_72 = 2 := ey_72.trans (by decide)
    refine lv_aload_n hx hb dX12_trade_30 rfl (lv_at hl 3 rfl) ?_
    have hPc := hP.sub (ws' := [(a0, .inr (12, MF ad 0 v3 0 (-1) v6 v7 v8 v9 vN 0 v36 v37 v38 v39 v40 v41 0 0 0 0 0)), ((ad 13), .inl (cI, 2, .inl fT))]) [0, 1] rfl
    refine vp_callSi (va_runV (As := []) (rest := [.int 2]) ⟨hx, hb, hml, hown, hts⟩ (m_many l D cI cB cL cZ a0 ad v3 v6 v7 v8 v9 v36 v37 v38 v39 v40 v41 vN fT hf_fT_0) (cwV 0 hts gX12_trade_X12_many rfl rfl rfl (by decide +kernel) ⟨Nat.le_of_ble_eq_true rfl, Nat.le_of_ble_eq_true rfl⟩) ⟨xr_blind, va_recv hK hPc (ci := 12) (q0 := 0) rfl rfl, fun U hU hW => xr_mk hU hW hPc hK⟩ rfl rfl hl.1 rfl (lv_room (Nat.le_of_ble_eq_true rfl)) dX12_trade_31 ⟨Nat.le_of_ble_eq_true rfl, Nat.le_of_ble_eq_true rfl⟩).run (fun r_73 hr_73 => ?_)
    clear hPc
    subst hr_73
    refine lv_icmp_ge (tgt := 88) hx hb dX12_trade_34 (by decide) (fun _ => ?_) (fun c_74 => absurd (by decide) c_74)
    refine lv_iinc (v := 18) (lv' := [(4, .int 18), (3, .int (-1)), (2, .int (-1)), (0, .ref a0), (1, .int x)]) hx hb dX12_trade_88 hl (k := 0) rfl (by decide) (by decide) rfl (fun ls hl => ?_)
    refine lv_goto (tgt := 18) hx hb dX12_trade_91 (by decide) ?_
    refine lv_iload hx hb dX12_trade_18 (lv_at hl 0 rfl) ?_
    refine lv_bipush (v := 36) hx hb dX12_trade_20 (by decide) ?_
    refine lv_icmp_ge (tgt := 94) hx hb dX12_trade_22 (by decide) (fun c_75 => absurd c_75 (by decide)) (fun _ => ?_)
    refine lv_iload hx hb dX12_trade_25 (lv_at hl 0 rfl) ?_
    refine lv_bipush (v := 6) hx hb dX12_trade_27 (by decide) ?_
    refine lv_idiv hx hb dX12_trade_29 (by decide) ?_
    refine lv_topi (fun y_76 ey_76 => ?_)
    obtain rfl : y_76 = 3 := ey_76.trans (by decide)
    refine lv_aload_n hx hb dX12_trade_30 rfl (lv_at hl 3 rfl) ?_
    have hPc := hP.sub (ws' := [(a0, .inr (12, MF ad 0 v3 0 (-1) v6 v7 v8 v9 vN 0 v36 v37 v38 v39 v40 v41 0 0 0 0 0)), ((ad 13), .inl (cI, 2, .inl fT))]) [0, 1] rfl
    refine vp_callSi (va_runV (As := []) (rest := [.int 3]) ⟨hx, hb, hml, hown, hts⟩ (m_many l D cI cB cL cZ a0 ad v3 v6 v7 v8 v9 v36 v37 v38 v39 v40 v41 vN fT hf_fT_0) (cwV 0 hts gX12_trade_X12_many rfl rfl rfl (by decide +kernel) ⟨Nat.le_of_ble_eq_true rfl, Nat.le_of_ble_eq_true rfl⟩) ⟨xr_blind, va_recv hK hPc (ci := 12) (q0 := 0) rfl rfl, fun U hU hW => xr_mk hU hW hPc hK⟩ rfl rfl hl.1 rfl (lv_room (Nat.le_of_ble_eq_true rfl)) dX12_trade_31 ⟨Nat.le_of_ble_eq_true rfl, Nat.le_of_ble_eq_true rfl⟩).run (fun r_77 hr_77 => ?_)
    clear hPc
    subst hr_77
    refine lv_icmp_ge (tgt := 88) hx hb dX12_trade_34 (by decide) (fun _ => ?_) (fun c_78 => absurd (by decide) c_78)
    refine lv_iinc (v := 19) (lv' := [(4, .int 19), (3, .int (-1)), (2, .int (-1)), (0, .ref a0), (1, .int x)]) hx hb dX12_trade_88 hl (k := 0) rfl (by decide) (by decide) rfl (fun ls hl => ?_)
    refine lv_goto (tgt := 18) hx hb dX12_trade_91 (by decide) ?_
    refine lv_iload hx hb dX12_trade_18 (lv_at hl 0 rfl) ?_
    refine lv_bipush (v := 36) hx hb dX12_trade_20 (by decide) ?_
    refine lv_icmp_ge (tgt := 94) hx hb dX12_trade_22 (by decide) (fun c_79 => absurd c_79 (by decide)) (fun _ => ?_)
    refine lv_iload hx hb dX12_trade_25 (lv_at hl 0 rfl) ?_
    refine lv_bipush (v := 6) hx hb dX12_trade_27 (by decide) ?_
    refine lv_idiv hx hb dX12_trade_29 (by decide) ?_
    refine lv_topi (fun y_80 ey_80 => ?_)
    obtain rfl : y_80 = 3 := ey_80.trans (by decide)
    refine lv_aload_n hx hb dX12_trade_30 rfl (lv_at hl 3 rfl) ?_
    have hPc := hP.sub (ws' := [(a0, .inr (12, MF ad 0 v3 0 (-1) v6 v7 v8 v9 vN 0 v36 v37 v38 v39 v40 v41 0 0 0 0 0)), ((ad 13), .inl (cI, 2, .inl fT))]) [0, 1] rfl
    refine vp_callSi (va_runV (As := []) (rest := [.int 3]) ⟨hx, hb, hml, hown, hts⟩ (m_many l D cI cB cL cZ a0 ad v3 v6 v7 v8 v9 v36 v37 v38 v39 v40 v41 vN fT hf_fT_0) (cwV 0 hts gX12_trade_X12_many rfl rfl rfl (by decide +kernel) ⟨Nat.le_of_ble_eq_true rfl, Nat.le_of_ble_eq_true rfl⟩) ⟨xr_blind, va_recv hK hPc (ci := 12) (q0 := 0) rfl rfl, fun U hU hW => xr_mk hU hW hPc hK⟩ rfl rfl hl.1 rfl (lv_room (Nat.le_of_ble_eq_true rfl)) dX12_trade_31 ⟨Nat.le_of_ble_eq_true rfl, Nat.le_of_ble_eq_true rfl⟩).run (fun r_81 hr_81 => ?_)
    clear hPc
    subst hr_81
    refine lv_icmp_ge (tgt := 88) hx hb dX12_trade_34 (by decide) (fun _ => ?_) (fun c_82 => absurd (by decide) c_82)
    refine lv_iinc (v := 20) (lv' := [(4, .int 20), (3, .int (-1)), (2, .int (-1)), (0, .ref a0), (1, .int x)]) hx hb dX12_trade_88 hl (k := 0) rfl (by decide) (by decide) rfl (fun ls hl => ?_)
    refine lv_goto (tgt := 18) hx hb dX12_trade_91 (by decide) ?_
    refine lv_iload hx hb dX12_trade_18 (lv_at hl 0 rfl) ?_
    refine lv_bipush (v := 36) hx hb dX12_trade_20 (by decide) ?_
    refine lv_icmp_ge (tgt := 94) hx hb dX12_trade_22 (by decide) (fun c_83 => absurd c_83 (by decide)) (fun _ => ?_)
    refine lv_iload hx hb dX12_trade_25 (lv_at hl 0 rfl) ?_
    refine lv_bipush (v := 6) hx hb dX12_trade_27 (by decide) ?_
    refine lv_idiv hx hb dX12_trade_29 (by decide) ?_
    refine lv_topi (fun y_84 ey_84 => ?_)
    obtain rfl : y_84 = 3 := ey_84.trans (by decide)
    refine lv_aload_n hx hb dX12_trade_30 rfl (lv_at hl 3 rfl) ?_
    have hPc := hP.sub (ws' := [(a0, .inr (12, MF ad 0 v3 0 (-1) v6 v7 v8 v9 vN 0 v36 v37 v38 v39 v40 v41 0 0 0 0 0)), ((ad 13), .inl (cI, 2, .inl fT))]) [0, 1] rfl
    refine vp_callSi (va_runV (As := []) (rest := [.int 3]) ⟨hx, hb, hml, hown, hts⟩ (m_many l D cI cB cL cZ a0 ad v3 v6 v7 v8 v9 v36 v37 v38 v39 v40 v41 vN fT hf_fT_0) (cwV 0 hts gX12_trade_X12_many rfl rfl rfl (by decide +kernel) ⟨Nat.le_of_ble_eq_true rfl, Nat.le_of_ble_eq_true rfl⟩) ⟨xr_blind, va_recv hK hPc (ci := 12) (q0 := 0) rfl rfl, fun U hU hW => xr_mk hU hW hPc hK⟩ rfl rfl hl.1 rfl (lv_room (Nat.le_of_ble_eq_true rfl)) dX12_trade_31 ⟨Nat.le_of_ble_eq_true rfl, Nat.le_of_ble_eq_true rfl⟩).run (fun r_85 hr_85 => ?_)
    clear hPc
    subst hr_85
    refine lv_icmp_ge (tgt := 88) hx hb dX12_trade_34 (by decide) (fun _ => ?_) (fun c_86 => absurd (by decide) c_86)
    refine lv_iinc (v := 21) (lv' := [(4, .int 21), (3, .int (-1)), (2, .int (-1)), (0, .ref a0), (1, .int x)]) hx hb dX12_trade_88 hl (k := 0) rfl (by decide) (by decide) rfl (fun ls hl => ?_)
    refine lv_goto (tgt := 18) hx hb dX12_trade_91 (by decide) ?_
    refine lv_iload hx hb dX12_trade_18 (lv_at hl 0 rfl) ?_
    refine lv_bipush (v := 36) hx hb dX12_trade_20 (by decide) ?_
    refine lv_icmp_ge (tgt := 94) hx hb dX12_trade_22 (by decide) (fun c_87 => absurd c_87 (by decide)) (fun _ => ?_)
    refine lv_iload hx hb dX12_trade_25 (lv_at hl 0 rfl) ?_
    refine lv_bipush (v := 6) hx hb dX12_trade_27 (by decide) ?_
    refine lv_idiv hx hb dX12_trade_29 (by decide) ?_
    refine lv_topi (fun y_88 ey_88 => ?_)
    obtain rfl : y_88 = 3 := ey_88.trans (by decide)
    refine lv_aload_n hx hb dX12_trade_30 rfl (lv_at hl 3 rfl) ?_
    have hPc := hP.sub (ws' := [(a0, .inr (12, MF ad 0 v3 0 (-1) v6 v7 v8 v9 vN 0 v36 v37 v38 v39 v40 v41 0 0 0 0 0)), ((ad 13), .inl (cI, 2, .inl fT))]) [0, 1] rfl
    refine vp_callSi (va_runV (As := []) (rest := [.int 3]) ⟨hx, hb, hml, hown, hts⟩ (m_many l D cI cB cL cZ a0 ad v3 v6 v7 v8 v9 v36 v37 v38 v39 v40 v41 vN fT hf_fT_0) (cwV 0 hts gX12_trade_X12_many rfl rfl rfl (by decide +kernel) ⟨Nat.le_of_ble_eq_true rfl, Nat.le_of_ble_eq_true rfl⟩) ⟨xr_blind, va_recv hK hPc (ci := 12) (q0 := 0) rfl rfl, fun U hU hW => xr_mk hU hW hPc hK⟩ rfl rfl hl.1 rfl (lv_room (Nat.le_of_ble_eq_true rfl)) dX12_trade_31 ⟨Nat.le_of_ble_eq_true rfl, Nat.le_of_ble_eq_true rfl⟩).run (fun r_89 hr_89 => ?_)
    clear hPc
    subst hr_89
    refine lv_icmp_ge (tgt := 88) hx hb dX12_trade_34 (by decide) (fun _ => ?_) (fun c_90 => absurd (by decide) c_90)
    refine lv_iinc (v := 22) (lv' := [(4, .int 22), (3, .int (-1)), (2, .int (-1)), (0, .ref a0), (1, .int x)]) hx hb dX12_trade_88 hl (k := 0) rfl (by decide) (by decide) rfl (fun ls hl => ?_)
    refine lv_goto (tgt := 18) hx hb dX12_trade_91 (by decide) ?_
    refine lv_iload hx hb dX12_trade_18 (lv_at hl 0 rfl) ?_
    refine lv_bipush (v := 36) hx hb dX12_trade_20 (by decide) ?_
    refine lv_icmp_ge (tgt := 94) hx hb dX12_trade_22 (by decide) (fun c_91 => absurd c_91 (by decide)) (fun _ => ?_)
    refine lv_iload hx hb dX12_trade_25 (lv_at hl 0 rfl) ?_
    refine lv_bipush (v := 6) hx hb dX12_trade_27 (by decide) ?_
    refine lv_idiv hx hb dX12_trade_29 (by decide) ?_
    refine lv_topi (fun y_92 ey_92 => ?_)
    obtain rfl : y_92 = 3 := ey_92.trans (by decide)
    refine lv_aload_n hx hb dX12_trade_30 rfl (lv_at hl 3 rfl) ?_
    have hPc := hP.sub (ws' := [(a0, .inr (12, MF ad 0 v3 0 (-1) v6 v7 v8 v9 vN 0 v36 v37 v38 v39 v40 v41 0 0 0 0 0)), ((ad 13), .inl (cI, 2, .inl fT))]) [0, 1] rfl
    refine vp_callSi (va_runV (As := []) (rest := [.int 3]) ⟨hx, hb, hml, hown, hts⟩ (m_many l D cI cB cL cZ a0 ad v3 v6 v7 v8 v9 v36 v37 v38 v39 v40 v41 vN fT hf_fT_0) (cwV 0 hts gX12_trade_X12_many rfl rfl rfl (by decide +kernel) ⟨Nat.le_of_ble_eq_true rfl, Nat.le_of_ble_eq_true rfl⟩) ⟨xr_blind, va_recv hK hPc (ci := 12) (q0 := 0) rfl rfl, fun U hU hW => xr_mk hU hW hPc hK⟩ rfl rfl hl.1 rfl (lv_room (Nat.le_of_ble_eq_true rfl)) dX12_trade_31 ⟨Nat.le_of_ble_eq_true rfl, Nat.le_of_ble_eq_true rfl⟩).run (fun r_93 hr_93 => ?_)
    clear hPc
    subst hr_93
    refine lv_icmp_ge (tgt := 88) hx hb dX12_trade_34 (by decide) (fun _ => ?_) (fun c_94 => absurd (by decide) c_94)
    refine lv_iinc (v := 23) (lv' := [(4, .int 23), (3, .int (-1)), (2, .int (-1)), (0, .ref a0), (1, .int x)]) hx hb dX12_trade_88 hl (k := 0) rfl (by decide) (by decide) rfl (fun ls hl => ?_)
    refine lv_goto (tgt := 18) hx hb dX12_trade_91 (by decide) ?_
    refine lv_iload hx hb dX12_trade_18 (lv_at hl 0 rfl) ?_
    refine lv_bipush (v := 36) hx hb dX12_trade_20 (by decide) ?_
    refine lv_icmp_ge (tgt := 94) hx hb dX12_trade_22 (by decide) (fun c_95 => absurd c_95 (by decide)) (fun _ => ?_)
    refine lv_iload hx hb dX12_trade_25 (lv_at hl 0 rfl) ?_
    refine lv_bipush (v := 6) hx hb dX12_trade_27 (by decide) ?_
    refine lv_idiv hx hb dX12_trade_29 (by decide) ?_
    refine lv_topi (fun y_96 ey_96 => ?_)
    obtain rfl : y_96 = 3 := ey_96.trans (by decide)
    refine lv_aload_n hx hb dX12_trade_30 rfl (lv_at hl 3 rfl) ?_
    have hPc := hP.sub (ws' := [(a0, .inr (12, MF ad 0 v3 0 (-1) v6 v7 v8 v9 vN 0 v36 v37 v38 v39 v40 v41 0 0 0 0 0)), ((ad 13), .inl (cI, 2, .inl fT))]) [0, 1] rfl
    refine vp_callSi (va_runV (As := []) (rest := [.int 3]) ⟨hx, hb, hml, hown, hts⟩ (m_many l D cI cB cL cZ a0 ad v3 v6 v7 v8 v9 v36 v37 v38 v39 v40 v41 vN fT hf_fT_0) (cwV 0 hts gX12_trade_X12_many rfl rfl rfl (by decide +kernel) ⟨Nat.le_of_ble_eq_true rfl, Nat.le_of_ble_eq_true rfl⟩) ⟨xr_blind, va_recv hK hPc (ci := 12) (q0 := 0) rfl rfl, fun U hU hW => xr_mk hU hW hPc hK⟩ rfl rfl hl.1 rfl (lv_room (Nat.le_of_ble_eq_true rfl)) dX12_trade_31 ⟨Nat.le_of_ble_eq_true rfl, Nat.le_of_ble_eq_true rfl⟩).run (fun r_97 hr_97 => ?_)
    clear hPc
    subst hr_97
    refine lv_icmp_ge (tgt := 88) hx hb dX12_trade_34 (by decide) (fun _ => ?_) (fun c_98 => absurd (by decide) c_98)
    refine lv_iinc (v := 24) (lv' := [(4, .int 24), (3, .int (-1)), (2, .int (-1)), (0, .ref a0), (1, .int x)]) hx hb dX12_trade_88 hl (k := 0) rfl (by decide) (by decide) rfl (fun ls hl => ?_)
    refine lv_goto (tgt := 18) hx hb dX12_trade_91 (by decide) ?_
    refine lv_iload hx hb dX12_trade_18 (lv_at hl 0 rfl) ?_
    refine lv_bipush (v := 36) hx hb dX12_trade_20 (by decide) ?_
    refine lv_icmp_ge (tgt := 94) hx hb dX12_trade_22 (by decide) (fun c_99 => absurd c_99 (by decide)) (fun _ => ?_)
    refine lv_iload hx hb dX12_trade_25 (lv_at hl 0 rfl) ?_
    refine lv_bipush (v := 6) hx hb dX12_trade_27 (by decide) ?_
    refine lv_idiv hx hb dX12_trade_29 (by decide) ?_
    refine lv_topi (fun y_100 ey_100 => ?_)
    obtain rfl : y_100 = 4 := ey_100.trans (by decide)
    refine lv_aload_n hx hb dX12_trade_30 rfl (lv_at hl 3 rfl) ?_
    have hPc := hP.sub (ws' := [(a0, .inr (12, MF ad 0 v3 0 (-1) v6 v7 v8 v9 vN 0 v36 v37 v38 v39 v40 v41 0 0 0 0 0)), ((ad 13), .inl (cI, 2, .inl fT))]) [0, 1] rfl
    refine vp_callSi (va_runV (As := []) (rest := [.int 4]) ⟨hx, hb, hml, hown, hts⟩ (m_many l D cI cB cL cZ a0 ad v3 v6 v7 v8 v9 v36 v37 v38 v39 v40 v41 vN fT hf_fT_0) (cwV 0 hts gX12_trade_X12_many rfl rfl rfl (by decide +kernel) ⟨Nat.le_of_ble_eq_true rfl, Nat.le_of_ble_eq_true rfl⟩) ⟨xr_blind, va_recv hK hPc (ci := 12) (q0 := 0) rfl rfl, fun U hU hW => xr_mk hU hW hPc hK⟩ rfl rfl hl.1 rfl (lv_room (Nat.le_of_ble_eq_true rfl)) dX12_trade_31 ⟨Nat.le_of_ble_eq_true rfl, Nat.le_of_ble_eq_true rfl⟩).run (fun r_101 hr_101 => ?_)
    clear hPc
    subst hr_101
    refine lv_icmp_ge (tgt := 88) hx hb dX12_trade_34 (by decide) (fun _ => ?_) (fun c_102 => absurd (by decide) c_102)
    refine lv_iinc (v := 25) (lv' := [(4, .int 25), (3, .int (-1)), (2, .int (-1)), (0, .ref a0), (1, .int x)]) hx hb dX12_trade_88 hl (k := 0) rfl (by decide) (by decide) rfl (fun ls hl => ?_)
    refine lv_goto (tgt := 18) hx hb dX12_trade_91 (by decide) ?_
    refine lv_iload hx hb dX12_trade_18 (lv_at hl 0 rfl) ?_
    refine lv_bipush (v := 36) hx hb dX12_trade_20 (by decide) ?_
    refine lv_icmp_ge (tgt := 94) hx hb dX12_trade_22 (by decide) (fun c_103 => absurd c_103 (by decide)) (fun _ => ?_)
    refine lv_iload hx hb dX12_trade_25 (lv_at hl 0 rfl) ?_
    refine lv_bipush (v := 6) hx hb dX12_trade_27 (by decide) ?_
    refine lv_idiv hx hb dX12_trade_29 (by decide) ?_
    refine lv_topi (fun y_104 ey_104 => ?_)
    obtain rfl : y_104 = 4 := ey_104.trans (by decide)
    refine lv_aload_n hx hb dX12_trade_30 rfl (lv_at hl 3 rfl) ?_
    have hPc := hP.sub (ws' := [(a0, .inr (12, MF ad 0 v3 0 (-1) v6 v7 v8 v9 vN 0 v36 v37 v38 v39 v40 v41 0 0 0 0 0)), ((ad 13), .inl (cI, 2, .inl fT))]) [0, 1] rfl
    refine vp_callSi (va_runV (As := []) (rest := [.int 4]) ⟨hx, hb, hml, hown, hts⟩ (m_many l D cI cB cL cZ a0 ad v3 v6 v7 v8 v9 v36 v37 v38 v39 v40 v41 vN fT hf_fT_0) (cwV 0 hts gX12_trade_X12_many rfl rfl rfl (by decide +kernel) ⟨Nat.le_of_ble_eq_true rfl, Nat.le_of_ble_eq_true rfl⟩) ⟨xr_blind, va_recv hK hPc (ci := 12) (q0 := 0) rfl rfl, fun U hU hW => xr_mk hU hW hPc hK⟩ rfl rfl hl.1 rfl (lv_room (Nat.le_of_ble_eq_true rfl)) dX12_trade_31 ⟨Nat.le_of_ble_eq_true rfl, Nat.le_of_ble_eq_true rfl⟩).run (fun r_105 hr_105 => ?_)
    clear hPc
    subst hr_105
    refine lv_icmp_ge (tgt := 88) hx hb dX12_trade_34 (by decide) (fun _ => ?_) (fun c_106 => absurd (by decide) c_106)
    refine lv_iinc (v := 26) (lv' := [(4, .int 26), (3, .int (-1)), (2, .int (-1)), (0, .ref a0), (1, .int x)]) hx hb dX12_trade_88 hl (k := 0) rfl (by decide) (by decide) rfl (fun ls hl => ?_)
    refine lv_goto (tgt := 18) hx hb dX12_trade_91 (by decide) ?_
    refine lv_iload hx hb dX12_trade_18 (lv_at hl 0 rfl) ?_
    refine lv_bipush (v := 36) hx hb dX12_trade_20 (by decide) ?_
    refine lv_icmp_ge (tgt := 94) hx hb dX12_trade_22 (by decide) (fun c_107 => absurd c_107 (by decide)) (fun _ => ?_)
    refine lv_iload hx hb dX12_trade_25 (lv_at hl 0 rfl) ?_
    refine lv_bipush (v := 6) hx hb dX12_trade_27 (by decide) ?_
    refine lv_idiv hx hb dX12_trade_29 (by decide) ?_
    refine lv_topi (fun y_108 ey_108 => ?_)
    obtain rfl : y_108 = 4 := ey_108.trans (by decide)
    refine lv_aload_n hx hb dX12_trade_30 rfl (lv_at hl 3 rfl) ?_
    have hPc := hP.sub (ws' := [(a0, .inr (12, MF ad 0 v3 0 (-1) v6 v7 v8 v9 vN 0 v36 v37 v38 v39 v40 v41 0 0 0 0 0)), ((ad 13), .inl (cI, 2, .inl fT))]) [0, 1] rfl
    refine vp_callSi (va_runV (As := []) (rest := [.int 4]) ⟨hx, hb, hml, hown, hts⟩ (m_many l D cI cB cL cZ a0 ad v3 v6 v7 v8 v9 v36 v37 v38 v39 v40 v41 vN fT hf_fT_0) (cwV 0 hts gX12_trade_X12_many rfl rfl rfl (by decide +kernel) ⟨Nat.le_of_ble_eq_true rfl, Nat.le_of_ble_eq_true rfl⟩) ⟨xr_blind, va_recv hK hPc (ci := 12) (q0 := 0) rfl rfl, fun U hU hW => xr_mk hU hW hPc hK⟩ rfl rfl hl.1 rfl (lv_room (Nat.le_of_ble_eq_true rfl)) dX12_trade_31 ⟨Nat.le_of_ble_eq_true rfl, Nat.le_of_ble_eq_true rfl⟩).run (fun r_109 hr_109 => ?_)
    clear hPc
    subst hr_109
    refine lv_icmp_ge (tgt := 88) hx hb dX12_trade_34 (by decide) (fun _ => ?_) (fun c_110 => absurd (by decide) c_110)
    refine lv_iinc (v := 27) (lv' := [(4, .int 27), (3, .int (-1)), (2, .int (-1)), (0, .ref a0), (1, .int x)]) hx hb dX12_trade_88 hl (k := 0) rfl (by decide) (by decide) rfl (fun ls hl => ?_)
    refine lv_goto (tgt := 18) hx hb dX12_trade_91 (by decide) ?_
    refine lv_iload hx hb dX12_trade_18 (lv_at hl 0 rfl) ?_
    refine lv_bipush (v := 36) hx hb dX12_trade_20 (by decide) ?_
    refine lv_icmp_ge (tgt := 94) hx hb dX12_trade_22 (by decide) (fun c_111 => absurd c_111 (by decide)) (fun _ => ?_)
    refine lv_iload hx hb dX12_trade_25 (lv_at hl 0 rfl) ?_
    refine lv_bipush (v := 6) hx hb dX12_trade_27 (by decide) ?_
    refine lv_idiv hx hb dX12_trade_29 (by decide) ?_
    refine lv_topi (fun y_112 ey_112 => ?_)
    obtain rfl : y_112 = 4 := ey_112.trans (by decide)
    refine lv_aload_n hx hb dX12_trade_30 rfl (lv_at hl 3 rfl) ?_
    have hPc := hP.sub (ws' := [(a0, .inr (12, MF ad 0 v3 0 (-1) v6 v7 v8 v9 vN 0 v36 v37 v38 v39 v40 v41 0 0 0 0 0)), ((ad 13), .inl (cI, 2, .inl fT))]) [0, 1] rfl
    refine vp_callSi (va_runV (As := []) (rest := [.int 4]) ⟨hx, hb, hml, hown, hts⟩ (m_many l D cI cB cL cZ a0 ad v3 v6 v7 v8 v9 v36 v37 v38 v39 v40 v41 vN fT hf_fT_0) (cwV 0 hts gX12_trade_X12_many rfl rfl rfl (by decide +kernel) ⟨Nat.le_of_ble_eq_true rfl, Nat.le_of_ble_eq_true rfl⟩) ⟨xr_blind, va_recv hK hPc (ci := 12) (q0 := 0) rfl rfl, fun U hU hW => xr_mk hU hW hPc hK⟩ rfl rfl hl.1 rfl (lv_room (Nat.le_of_ble_eq_true rfl)) dX12_trade_31 ⟨Nat.le_of_ble_eq_true rfl, Nat.le_of_ble_eq_true rfl⟩).run (fun r_113 hr_113 => ?_)
    clear hPc
    subst hr_113
    refine lv_icmp_ge (tgt := 88) hx hb dX12_trade_34 (by decide) (fun _ => ?_) (fun c_114 => absurd (by decide) c_114)
    refine lv_iinc (v := 28) (lv' := [(4, .int 28), (3, .int (-1)), (2, .int (-1)), (0, .ref a0), (1, .int x)]) hx hb dX12_trade_88 hl (k := 0) rfl (by decide) (by decide) rfl (fun ls hl => ?_)
    refine lv_goto (tgt := 18) hx hb dX12_trade_91 (by decide) ?_
    refine lv_iload hx hb dX12_trade_18 (lv_at hl 0 rfl) ?_
    refine lv_bipush (v := 36) hx hb dX12_trade_20 (by decide) ?_
    refine lv_icmp_ge (tgt := 94) hx hb dX12_trade_22 (by decide) (fun c_115 => absurd c_115 (by decide)) (fun _ => ?_)
    refine lv_iload hx hb dX12_trade_25 (lv_at hl 0 rfl) ?_
    refine lv_bipush (v := 6) hx hb dX12_trade_27 (by decide) ?_
    refine lv_idiv hx hb dX12_trade_29 (by decide) ?_
    refine lv_topi (fun y_116 ey_116 => ?_)
    obtain rfl : y_116 = 4 := ey_116.trans (by decide)
    refine lv_aload_n hx hb dX12_trade_30 rfl (lv_at hl 3 rfl) ?_
    have hPc := hP.sub (ws' := [(a0, .inr (12, MF ad 0 v3 0 (-1) v6 v7 v8 v9 vN 0 v36 v37 v38 v39 v40 v41 0 0 0 0 0)), ((ad 13), .inl (cI, 2, .inl fT))]) [0, 1] rfl
    refine vp_callSi (va_runV (As := []) (rest := [.int 4]) ⟨hx, hb, hml, hown, hts⟩ (m_many l D cI cB cL cZ a0 ad v3 v6 v7 v8 v9 v36 v37 v38 v39 v40 v41 vN fT hf_fT_0) (cwV 0 hts gX12_trade_X12_many rfl rfl rfl (by decide +kernel) ⟨Nat.le_of_ble_eq_true rfl, Nat.le_of_ble_eq_true rfl⟩) ⟨xr_blind, va_recv hK hPc (ci := 12) (q0 := 0) rfl rfl, fun U hU hW => xr_mk hU hW hPc hK⟩ rfl rfl hl.1 rfl (lv_room (Nat.le_of_ble_eq_true rfl)) dX12_trade_31 ⟨Nat.le_of_ble_eq_true rfl, Nat.le_of_ble_eq_true rfl⟩).run (fun r_117 hr_117 => ?_)
    clear hPc
    subst hr_117
    refine lv_icmp_ge (tgt := 88) hx hb dX12_trade_34 (by decide) (fun _ => ?_) (fun c_118 => absurd (by decide) c_118)
    refine lv_iinc (v := 29) (lv' := [(4, .int 29), (3, .int (-1)), (2, .int (-1)), (0, .ref a0), (1, .int x)]) hx hb dX12_trade_88 hl (k := 0) rfl (by decide) (by decide) rfl (fun ls hl => ?_)
    refine lv_goto (tgt := 18) hx hb dX12_trade_91 (by decide) ?_
    refine lv_iload hx hb dX12_trade_18 (lv_at hl 0 rfl) ?_
    refine lv_bipush (v := 36) hx hb dX12_trade_20 (by decide) ?_
    refine lv_icmp_ge (tgt := 94) hx hb dX12_trade_22 (by decide) (fun c_119 => absurd c_119 (by decide)) (fun _ => ?_)
    refine lv_iload hx hb dX12_trade_25 (lv_at hl 0 rfl) ?_
    refine lv_bipush (v := 6) hx hb dX12_trade_27 (by decide) ?_
    refine lv_idiv hx hb dX12_trade_29 (by decide) ?_
    refine lv_topi (fun y_120 ey_120 => ?_)
    obtain rfl : y_120 = 4 := ey_120.trans (by decide)
    refine lv_aload_n hx hb dX12_trade_30 rfl (lv_at hl 3 rfl) ?_
    have hPc := hP.sub (ws' := [(a0, .inr (12, MF ad 0 v3 0 (-1) v6 v7 v8 v9 vN 0 v36 v37 v38 v39 v40 v41 0 0 0 0 0)), ((ad 13), .inl (cI, 2, .inl fT))]) [0, 1] rfl
    refine vp_callSi (va_runV (As := []) (rest := [.int 4]) ⟨hx, hb, hml, hown, hts⟩ (m_many l D cI cB cL cZ a0 ad v3 v6 v7 v8 v9 v36 v37 v38 v39 v40 v41 vN fT hf_fT_0) (cwV 0 hts gX12_trade_X12_many rfl rfl rfl (by decide +kernel) ⟨Nat.le_of_ble_eq_true rfl, Nat.le_of_ble_eq_true rfl⟩) ⟨xr_blind, va_recv hK hPc (ci := 12) (q0 := 0) rfl rfl, fun U hU hW => xr_mk hU hW hPc hK⟩ rfl rfl hl.1 rfl (lv_room (Nat.le_of_ble_eq_true rfl)) dX12_trade_31 ⟨Nat.le_of_ble_eq_true rfl, Nat.le_of_ble_eq_true rfl⟩).run (fun r_121 hr_121 => ?_)
    clear hPc
    subst hr_121
    refine lv_icmp_ge (tgt := 88) hx hb dX12_trade_34 (by decide) (fun _ => ?_) (fun c_122 => absurd (by decide) c_122)
    refine lv_iinc (v := 30) (lv' := [(4, .int 30), (3, .int (-1)), (2, .int (-1)), (0, .ref a0), (1, .int x)]) hx hb dX12_trade_88 hl (k := 0) rfl (by decide) (by decide) rfl (fun ls hl => ?_)
    refine lv_goto (tgt := 18) hx hb dX12_trade_91 (by decide) ?_
    refine lv_iload hx hb dX12_trade_18 (lv_at hl 0 rfl) ?_
    refine lv_bipush (v := 36) hx hb dX12_trade_20 (by decide) ?_
    refine lv_icmp_ge (tgt := 94) hx hb dX12_trade_22 (by decide) (fun c_123 => absurd c_123 (by decide)) (fun _ => ?_)
    refine lv_iload hx hb dX12_trade_25 (lv_at hl 0 rfl) ?_
    refine lv_bipush (v := 6) hx hb dX12_trade_27 (by decide) ?_
    refine lv_idiv hx hb dX12_trade_29 (by decide) ?_
    refine lv_topi (fun y_124 ey_124 => ?_)
    obtain rfl : y_124 = 5 := ey_124.trans (by decide)
    refine lv_aload_n hx hb dX12_trade_30 rfl (lv_at hl 3 rfl) ?_
    have hPc := hP.sub (ws' := [(a0, .inr (12, MF ad 0 v3 0 (-1) v6 v7 v8 v9 vN 0 v36 v37 v38 v39 v40 v41 0 0 0 0 0)), ((ad 13), .inl (cI, 2, .inl fT))]) [0, 1] rfl
    refine vp_callSi (va_runV (As := []) (rest := [.int 5]) ⟨hx, hb, hml, hown, hts⟩ (m_many l D cI cB cL cZ a0 ad v3 v6 v7 v8 v9 v36 v37 v38 v39 v40 v41 vN fT hf_fT_0) (cwV 0 hts gX12_trade_X12_many rfl rfl rfl (by decide +kernel) ⟨Nat.le_of_ble_eq_true rfl, Nat.le_of_ble_eq_true rfl⟩) ⟨xr_blind, va_recv hK hPc (ci := 12) (q0 := 0) rfl rfl, fun U hU hW => xr_mk hU hW hPc hK⟩ rfl rfl hl.1 rfl (lv_room (Nat.le_of_ble_eq_true rfl)) dX12_trade_31 ⟨Nat.le_of_ble_eq_true rfl, Nat.le_of_ble_eq_true rfl⟩).run (fun r_125 hr_125 => ?_)
    clear hPc
    subst hr_125
    refine lv_icmp_ge (tgt := 88) hx hb dX12_trade_34 (by decide) (fun _ => ?_) (fun c_126 => absurd (by decide) c_126)
    refine lv_iinc (v := 31) (lv' := [(4, .int 31), (3, .int (-1)), (2, .int (-1)), (0, .ref a0), (1, .int x)]) hx hb dX12_trade_88 hl (k := 0) rfl (by decide) (by decide) rfl (fun ls hl => ?_)
    refine lv_goto (tgt := 18) hx hb dX12_trade_91 (by decide) ?_
    refine lv_iload hx hb dX12_trade_18 (lv_at hl 0 rfl) ?_
    refine lv_bipush (v := 36) hx hb dX12_trade_20 (by decide) ?_
    refine lv_icmp_ge (tgt := 94) hx hb dX12_trade_22 (by decide) (fun c_127 => absurd c_127 (by decide)) (fun _ => ?_)
    refine lv_iload hx hb dX12_trade_25 (lv_at hl 0 rfl) ?_
    refine lv_bipush (v := 6) hx hb dX12_trade_27 (by decide) ?_
    refine lv_idiv hx hb dX12_trade_29 (by decide) ?_
    refine lv_topi (fun y_128 ey_128 => ?_)
    obtain rfl : y_128 = 5 := ey_128.trans (by decide)
    refine lv_aload_n hx hb dX12_trade_30 rfl (lv_at hl 3 rfl) ?_
    have hPc := hP.sub (ws' := [(a0, .inr (12, MF ad 0 v3 0 (-1) v6 v7 v8 v9 vN 0 v36 v37 v38 v39 v40 v41 0 0 0 0 0)), ((ad 13), .inl (cI, 2, .inl fT))]) [0, 1] rfl
    refine vp_callSi (va_runV (As := []) (rest := [.int 5]) ⟨hx, hb, hml, hown, hts⟩ (m_many l D cI cB cL cZ a0 ad v3 v6 v7 v8 v9 v36 v37 v38 v39 v40 v41 vN fT hf_fT_0) (cwV 0 hts gX12_trade_X12_many rfl rfl rfl (by decide +kernel) ⟨Nat.le_of_ble_eq_true rfl, Nat.le_of_ble_eq_true rfl⟩) ⟨xr_blind, va_recv hK hPc (ci := 12) (q0 := 0) rfl rfl, fun U hU hW => xr_mk hU hW hPc hK⟩ rfl rfl hl.1 rfl (lv_room (Nat.le_of_ble_eq_true rfl)) dX12_trade_31 ⟨Nat.le_of_ble_eq_true rfl, Nat.le_of_ble_eq_true rfl⟩).run (fun r_129 hr_129 => ?_)
    clear hPc
    subst hr_129
    refine lv_icmp_ge (tgt := 88) hx hb dX12_trade_34 (by decide) (fun _ => ?_) (fun c_130 => absurd (by decide) c_130)
    refine lv_iinc (v := 32) (lv' := [(4, .int 32), (3, .int (-1)), (2, .int (-1)), (0, .ref a0), (1, .int x)]) hx hb dX12_trade_88 hl (k := 0) rfl (by decide) (by decide) rfl (fun ls hl => ?_)
    refine lv_goto (tgt := 18) hx hb dX12_trade_91 (by decide) ?_
    refine lv_iload hx hb dX12_trade_18 (lv_at hl 0 rfl) ?_
    refine lv_bipush (v := 36) hx hb dX12_trade_20 (by decide) ?_
    refine lv_icmp_ge (tgt := 94) hx hb dX12_trade_22 (by decide) (fun c_131 => absurd c_131 (by decide)) (fun _ => ?_)
    refine lv_iload hx hb dX12_trade_25 (lv_at hl 0 rfl) ?_
    refine lv_bipush (v := 6) hx hb dX12_trade_27 (by decide) ?_
    refine lv_idiv hx hb dX12_trade_29 (by decide) ?_
    refine lv_topi (fun y_132 ey_132 => ?_)
    obtain rfl : y_132 = 5 := ey_132.trans (by decide)
    refine lv_aload_n hx hb dX12_trade_30 rfl (lv_at hl 3 rfl) ?_
    have hPc := hP.sub (ws' := [(a0, .inr (12, MF ad 0 v3 0 (-1) v6 v7 v8 v9 vN 0 v36 v37 v38 v39 v40 v41 0 0 0 0 0)), ((ad 13), .inl (cI, 2, .inl fT))]) [0, 1] rfl
    refine vp_callSi (va_runV (As := []) (rest := [.int 5]) ⟨hx, hb, hml, hown, hts⟩ (m_many l D cI cB cL cZ a0 ad v3 v6 v7 v8 v9 v36 v37 v38 v39 v40 v41 vN fT hf_fT_0) (cwV 0 hts gX12_trade_X12_many rfl rfl rfl (by decide +kernel) ⟨Nat.le_of_ble_eq_true rfl, Nat.le_of_ble_eq_true rfl⟩) ⟨xr_blind, va_recv hK hPc (ci := 12) (q0 := 0) rfl rfl, fun U hU hW => xr_mk hU hW hPc hK⟩ rfl rfl hl.1 rfl (lv_room (Nat.le_of_ble_eq_true rfl)) dX12_trade_31 ⟨Nat.le_of_ble_eq_true rfl, Nat.le_of_ble_eq_true rfl⟩).run (fun r_133 hr_133 => ?_)
    clear hPc
    subst hr_133
    refine lv_icmp_ge (tgt := 88) hx hb dX12_trade_34 (by decide) (fun _ => ?_) (fun c_134 => absurd (by decide) c_134)
    refine lv_iinc (v := 33) (lv' := [(4, .int 33), (3, .int (-1)), (2, .int (-1)), (0, .ref a0), (1, .int x)]) hx hb dX12_trade_88 hl (k := 0) rfl (by decide) (by decide) rfl (fun ls hl => ?_)
    refine lv_goto (tgt := 18) hx hb dX12_trade_91 (by decide) ?_
    refine lv_iload hx hb dX12_trade_18 (lv_at hl 0 rfl) ?_
    refine lv_bipush (v := 36) hx hb dX12_trade_20 (by decide) ?_
    refine lv_icmp_ge (tgt := 94) hx hb dX12_trade_22 (by decide) (fun c_135 => absurd c_135 (by decide)) (fun _ => ?_)
    refine lv_iload hx hb dX12_trade_25 (lv_at hl 0 rfl) ?_
    refine lv_bipush (v := 6) hx hb dX12_trade_27 (by decide) ?_
    refine lv_idiv hx hb dX12_trade_29 (by decide) ?_
    refine lv_topi (fun y_136 ey_136 => ?_)
    obtain rfl : y_136 = 5 := ey_136.trans (by decide)
    refine lv_aload_n hx hb dX12_trade_30 rfl (lv_at hl 3 rfl) ?_
    have hPc := hP.sub (ws' := [(a0, .inr (12, MF ad 0 v3 0 (-1) v6 v7 v8 v9 vN 0 v36 v37 v38 v39 v40 v41 0 0 0 0 0)), ((ad 13), .inl (cI, 2, .inl fT))]) [0, 1] rfl
    refine vp_callSi (va_runV (As := []) (rest := [.int 5]) ⟨hx, hb, hml, hown, hts⟩ (m_many l D cI cB cL cZ a0 ad v3 v6 v7 v8 v9 v36 v37 v38 v39 v40 v41 vN fT hf_fT_0) (cwV 0 hts gX12_trade_X12_many rfl rfl rfl (by decide +kernel) ⟨Nat.le_of_ble_eq_true rfl, Nat.le_of_ble_eq_true rfl⟩) ⟨xr_blind, va_recv hK hPc (ci := 12) (q0 := 0) rfl rfl, fun U hU hW => xr_mk hU hW hPc hK⟩ rfl rfl hl.1 rfl (lv_room (Nat.le_of_ble_eq_true rfl)) dX12_trade_31 ⟨Nat.le_of_ble_eq_true rfl, Nat.le_of_ble_eq_true rfl⟩).run (fun r_137 hr_137 => ?_)
    clear hPc
    subst hr_137
    refine lv_icmp_ge (tgt := 88) hx hb dX12_trade_34 (by decide) (fun _ => ?_) (fun c_138 => absurd (by decide) c_138)
    refine lv_iinc (v := 34) (lv' := [(4, .int 34), (3, .int (-1)), (2, .int (-1)), (0, .ref a0), (1, .int x)]) hx hb dX12_trade_88 hl (k := 0) rfl (by decide) (by decide) rfl (fun ls hl => ?_)
    refine lv_goto (tgt := 18) hx hb dX12_trade_91 (by decide) ?_
    refine lv_iload hx hb dX12_trade_18 (lv_at hl 0 rfl) ?_
    refine lv_bipush (v := 36) hx hb dX12_trade_20 (by decide) ?_
    refine lv_icmp_ge (tgt := 94) hx hb dX12_trade_22 (by decide) (fun c_139 => absurd c_139 (by decide)) (fun _ => ?_)
    refine lv_iload hx hb dX12_trade_25 (lv_at hl 0 rfl) ?_
    refine lv_bipush (v := 6) hx hb dX12_trade_27 (by decide) ?_
    refine lv_idiv hx hb dX12_trade_29 (by decide) ?_
    refine lv_topi (fun y_140 ey_140 => ?_)
    obtain rfl : y_140 = 5 := ey_140.trans (by decide)
    refine lv_aload_n hx hb dX12_trade_30 rfl (lv_at hl 3 rfl) ?_
    have hPc := hP.sub (ws' := [(a0, .inr (12, MF ad 0 v3 0 (-1) v6 v7 v8 v9 vN 0 v36 v37 v38 v39 v40 v41 0 0 0 0 0)), ((ad 13), .inl (cI, 2, .inl fT))]) [0, 1] rfl
    refine vp_callSi (va_runV (As := []) (rest := [.int 5]) ⟨hx, hb, hml, hown, hts⟩ (m_many l D cI cB cL cZ a0 ad v3 v6 v7 v8 v9 v36 v37 v38 v39 v40 v41 vN fT hf_fT_0) (cwV 0 hts gX12_trade_X12_many rfl rfl rfl (by decide +kernel) ⟨Nat.le_of_ble_eq_true rfl, Nat.le_of_ble_eq_true rfl⟩) ⟨xr_blind, va_recv hK hPc (ci := 12) (q0 := 0) rfl rfl, fun U hU hW => xr_mk hU hW hPc hK⟩ rfl rfl hl.1 rfl (lv_room (Nat.le_of_ble_eq_true rfl)) dX12_trade_31 ⟨Nat.le_of_ble_eq_true rfl, Nat.le_of_ble_eq_true rfl⟩).run (fun r_141 hr_141 => ?_)
    clear hPc
    subst hr_141
    refine lv_icmp_ge (tgt := 88) hx hb dX12_trade_34 (by decide) (fun _ => ?_) (fun c_142 => absurd (by decide) c_142)
    refine lv_iinc (v := 35) (lv' := [(4, .int 35), (3, .int (-1)), (2, .int (-1)), (0, .ref a0), (1, .int x)]) hx hb dX12_trade_88 hl (k := 0) rfl (by decide) (by decide) rfl (fun ls hl => ?_)
    refine lv_goto (tgt := 18) hx hb dX12_trade_91 (by decide) ?_
    refine lv_iload hx hb dX12_trade_18 (lv_at hl 0 rfl) ?_
    refine lv_bipush (v := 36) hx hb dX12_trade_20 (by decide) ?_
    refine lv_icmp_ge (tgt := 94) hx hb dX12_trade_22 (by decide) (fun c_143 => absurd c_143 (by decide)) (fun _ => ?_)
    refine lv_iload hx hb dX12_trade_25 (lv_at hl 0 rfl) ?_
    refine lv_bipush (v := 6) hx hb dX12_trade_27 (by decide) ?_
    refine lv_idiv hx hb dX12_trade_29 (by decide) ?_
    refine lv_topi (fun y_144 ey_144 => ?_)
    obtain rfl : y_144 = 5 := ey_144.trans (by decide)
    refine lv_aload_n hx hb dX12_trade_30 rfl (lv_at hl 3 rfl) ?_
    have hPc := hP.sub (ws' := [(a0, .inr (12, MF ad 0 v3 0 (-1) v6 v7 v8 v9 vN 0 v36 v37 v38 v39 v40 v41 0 0 0 0 0)), ((ad 13), .inl (cI, 2, .inl fT))]) [0, 1] rfl
    refine vp_callSi (va_runV (As := []) (rest := [.int 5]) ⟨hx, hb, hml, hown, hts⟩ (m_many l D cI cB cL cZ a0 ad v3 v6 v7 v8 v9 v36 v37 v38 v39 v40 v41 vN fT hf_fT_0) (cwV 0 hts gX12_trade_X12_many rfl rfl rfl (by decide +kernel) ⟨Nat.le_of_ble_eq_true rfl, Nat.le_of_ble_eq_true rfl⟩) ⟨xr_blind, va_recv hK hPc (ci := 12) (q0 := 0) rfl rfl, fun U hU hW => xr_mk hU hW hPc hK⟩ rfl rfl hl.1 rfl (lv_room (Nat.le_of_ble_eq_true rfl)) dX12_trade_31 ⟨Nat.le_of_ble_eq_true rfl, Nat.le_of_ble_eq_true rfl⟩).run (fun r_145 hr_145 => ?_)
    clear hPc
    subst hr_145
    refine lv_icmp_ge (tgt := 88) hx hb dX12_trade_34 (by decide) (fun _ => ?_) (fun c_146 => absurd (by decide) c_146)
    refine lv_iinc (v := 36) (lv' := [(4, .int 36), (3, .int (-1)), (2, .int (-1)), (0, .ref a0), (1, .int x)]) hx hb dX12_trade_88 hl (k := 0) rfl (by decide) (by decide) rfl (fun ls hl => ?_)
    refine lv_goto (tgt := 18) hx hb dX12_trade_91 (by decide) ?_
    refine lv_iload hx hb dX12_trade_18 (lv_at hl 0 rfl) ?_
    refine lv_bipush (v := 36) hx hb dX12_trade_20 (by decide) ?_
    refine lv_icmp_ge (tgt := 94) hx hb dX12_trade_22 (by decide) (fun _ => ?_) (fun c_147 => absurd (by decide) c_147)
    refine lv_iload_n hx hb dX12_trade_94 rfl (lv_at hl 2 rfl) ?_
    refine lv_if_ge (tgt := 102) hx hb dX12_trade_95 (by decide) (fun c_148 => absurd c_148 (by decide)) (fun _ => ?_)
    refine lv_iconst (v := (-1)) hx hb dX12_trade_98 (by decide) ?_
    refine lv_goto (tgt := 126) hx hb dX12_trade_99 (by decide) ?_
    exact W.iret (v := (-1)) hx hb hr (fun t ht hW => ⟨(-1), rfl, rfl, ht⟩) (fun q hq => by cases hq) dX12_trade_126
  · refine lv_if_ne (tgt := 11) hx hb dX12_trade_6 (by decide) (fun c_149 => absurd (by decide) c_149) (fun _ => ?_)
    refine lv_iconst (v := (-1)) hx hb dX12_trade_9 (by decide) ?_
    exact W.iret (v := (-1)) hx hb hr (fun t ht hW => ⟨(-1), rfl, rfl, ht⟩) (fun q hq => by cases hq) dX12_trade_10
  · refine lv_if_ne (tgt := 11) hx hb dX12_trade_6 (by decide) (fun c_150 => absurd (by decide) c_150) (fun _ => ?_)
    refine lv_iconst (v := (-1)) hx hb dX12_trade_9 (by decide) ?_
    exact W.iret (v := (-1)) hx hb hr (fun t ht hW => ⟨(-1), rfl, rfl, ht⟩) (fun q hq => by cases hq) dX12_trade_10
set_option maxHeartbeats 4000000 in
set_option maxRecDepth 100000 in
theorem m_wealth (l : Launch) (D : va_G) (cI : ClassId) (cB : ClassId) (cL : ClassId) (cZ : ClassId) (a0 : Nat) (ad : Nat → Nat) (v3 : Int32) (v6 : Int32) (v7 : Int32) (v8 : Int32) (v9 : Int32) (v36 : Int32) (v37 : Int32) (v38 : Int32) (v39 : Int32) (v40 : Int32) (v41 : Int32) (vN : Int64) (fT : Nat → Int32) (x : Int32) (hf_fT_0 : fT 0 = 0) : Met l yX12_wealth wsX12_wealth ({ frames := 1, cells := 0, slots := 0, locals := 22 }) (xr D [(cI, .int), (cB, .byte), (cL, .long), (cZ, .boolean)] [(a0, .inr (12, MF ad 0 v3 0 (-1) v6 v7 v8 v9 vN 0 v36 v37 v38 v39 v40 v41 0 0 0 0 0)), ((ad 13), .inl (cI, 2, .inl fT))] [.ref a0, .int x]) (vp_Si (fun r => r = sp_rng 1 x)) 0 0 (fun _ => False) := by
  refine Met.ofW (cc := cX12_wealth) (maxL := 4) (ret := (some .int)) (by decide) rfl ?_
  intro p e s m args below meth c s₁ B hml hv
  obtain ⟨rfl, hP, hK⟩ := hv
  have hx := B.exec
  have hb := B.bytes
  have hr := B.returns
  have hts := atoms_spec (ws := wsX12_wealth) B.pre
  have hown : s.vm.findClass RX12 = some m.cls := findClass_of_methodNamed B.named
  have hlocks := B.notSynchronized
  have hl := lv_entry ([.ref a0, .int x]) (n := 4) (Nat.le_of_ble_eq_true rfl)
  rw [lg_entry_eq]
  generalize (lg_sl ([.ref a0, .int x]) ++ List.replicate (4 - (lg_sl ([.ref a0, .int x])).length) Slot.unset).toArray = ls at hl ⊢
  replace hl : lv_has ls 4 [(0, .ref a0), (1, .int x)] := hl
  refine lv_iload_n hx hb dX12_wealth_0 rfl (lv_at hl 1 rfl) ?_
  refine lv_iconst (v := 0) hx hb dX12_wealth_1 (by decide) ?_
  refine lv_iconst (v := 1) hx hb dX12_wealth_2 (by decide) ?_
  have hPc := hP.sub (ws' := []) [] rfl
  refine vp_callSi (va_runS (As := [.int x, .int 0, .int 1]) (rest := []) ⟨hx, hb, hml, hown, hts⟩ (m_isIn l D cI cB cL cZ x 0 1) (va_cwS 3 hts gX12_wealth_X12_isIn rfl rfl rfl (by decide +kernel) ⟨Nat.le_of_ble_eq_true rfl, Nat.le_of_ble_eq_true rfl⟩) ⟨xr_blind, fun U hU hW => xr_mk hU hW hPc hK⟩ rfl rfl hl.1 rfl (lv_room (Nat.le_of_ble_eq_true rfl)) dX12_wealth_3 ⟨Nat.le_of_ble_eq_true rfl, Nat.le_of_ble_eq_true rfl⟩).run (fun r_1 hr_1 => ?_)
  clear hPc
  rcases hr_1 with ⟨rfl, hr_1_0, hr_1_1⟩ | ⟨rfl, hr_1_0⟩ | ⟨rfl, hr_1_0, hr_1_1⟩
  · refine lv_if_ne (tgt := 11) hx hb dX12_wealth_6 (by decide) (fun _ => ?_) (fun c_2 => absurd c_2 (by decide))
    refine lv_iconst (v := 0) hx hb dX12_wealth_11 (by decide) ?_
    refine lv_istore_n (lv' := [(2, .int 0), (0, .ref a0), (1, .int x)]) hx hb dX12_wealth_12 rfl hl (by decide) rfl (fun ls hl => ?_)
    refine lv_iconst (v := 0) hx hb dX12_wealth_13 (by decide) ?_
    refine lv_istore_n (lv' := [(3, .int 0), (2, .int 0), (0, .ref a0), (1, .int x)]) hx hb dX12_wealth_14 rfl hl (by decide) rfl (fun ls hl => ?_)
    refine lv_iload_n hx hb dX12_wealth_15 rfl (lv_at hl 0 rfl) ?_
    refine lv_aload_n hx hb dX12_wealth_16 rfl (lv_at hl 2 rfl) ?_
    have hPc := hP.sub (ws' := [(a0, .inr (12, MF ad 0 v3 0 (-1) v6 v7 v8 v9 vN 0 v36 v37 v38 v39 v40 v41 0 0 0 0 0)), ((ad 13), .inl (cI, 2, .inl fT))]) [0, 1] rfl
    refine vp_callSi (va_runV (As := []) (rest := [.int 0]) ⟨hx, hb, hml, hown, hts⟩ (m_many l D cI cB cL cZ a0 ad v3 v6 v7 v8 v9 v36 v37 v38 v39 v40 v41 vN fT hf_fT_0) (cwV 0 hts gX12_wealth_X12_many rfl rfl rfl (by decide +kernel) ⟨Nat.le_of_ble_eq_true rfl, Nat.le_of_ble_eq_true rfl⟩) ⟨xr_blind, va_recv hK hPc (ci := 12) (q0 := 0) rfl rfl, fun U hU hW => xr_mk hU hW hPc hK⟩ rfl rfl hl.1 rfl (lv_room (Nat.le_of_ble_eq_true rfl)) dX12_wealth_17 ⟨Nat.le_of_ble_eq_true rfl, Nat.le_of_ble_eq_true rfl⟩).run (fun r_3 hr_3 => ?_)
    clear hPc
    subst hr_3
    refine lv_icmp_ge (tgt := 57) hx hb dX12_wealth_20 (by decide) (fun _ => ?_) (fun c_4 => absurd (by decide) c_4)
    refine lv_iload_n hx hb dX12_wealth_57 rfl (lv_at hl 1 rfl) ?_
    exact W.iret (v := 0) hx hb hr (fun t ht hW => ⟨0, rfl, (sp_rng_in hr_1_0 hr_1_1).symm, ht⟩) (fun q hq => by cases hq) dX12_wealth_58
  · refine lv_if_ne (tgt := 11) hx hb dX12_wealth_6 (by decide) (fun c_5 => absurd (by decide) c_5) (fun _ => ?_)
    refine lv_iconst (v := (-1)) hx hb dX12_wealth_9 (by decide) ?_
    exact W.iret (v := (-1)) hx hb hr (fun t ht hW => ⟨(-1), rfl, (sp_rng_lt hr_1_0).symm, ht⟩) (fun q hq => by cases hq) dX12_wealth_10
  · refine lv_if_ne (tgt := 11) hx hb dX12_wealth_6 (by decide) (fun c_6 => absurd (by decide) c_6) (fun _ => ?_)
    refine lv_iconst (v := (-1)) hx hb dX12_wealth_9 (by decide) ?_
    exact W.iret (v := (-1)) hx hb hr (fun t ht hW => ⟨(-1), rfl, (sp_rng_gt hr_1_0 hr_1_1).symm, ht⟩) (fun q hq => by cases hq) dX12_wealth_10
set_option maxHeartbeats 4000000 in
set_option maxRecDepth 100000 in
theorem m_off (l : Launch) (D : va_G) (cI : ClassId) (cB : ClassId) (cL : ClassId) (cZ : ClassId) (a0 : Nat) (ad : Nat → Nat) (v3 : Int32) (v6 : Int32) (v7 : Int32) (v8 : Int32) (v9 : Int32) (v36 : Int32) (v37 : Int32) (v38 : Int32) (v39 : Int32) (v40 : Int32) (v41 : Int32) (vN : Int64) (fT : Nat → Int32) (hf_fT_0 : fT 0 = 0) : Met l yX12_off wsX12_off ({ frames := 1, cells := 0, slots := 0, locals := 20 }) (xr D [(cI, .int), (cB, .byte), (cL, .long), (cZ, .boolean)] [(a0, .inr (12, MF ad 0 v3 0 (-1) v6 v7 v8 v9 vN 0 v36 v37 v38 v39 v40 v41 0 0 0 0 0)), ((ad 13), .inl (cI, 2, .inl fT))] [.ref a0]) (vp_Si (fun r => r = 0)) 0 0 (fun _ => False) := by
  refine Met.ofW (cc := cX12_off) (maxL := 3) (ret := (some .int)) (by decide) rfl ?_
  intro p e s m args below meth c s₁ B hml hv
  obtain ⟨rfl, hP, hK⟩ := hv
  have hx := B.exec
  have hb := B.bytes
  have hr := B.returns
  have hts := atoms_spec (ws := wsX12_off) B.pre
  have hown : s.vm.findClass RX12 = some m.cls := findClass_of_methodNamed B.named
  have hlocks := B.notSynchronized
  have hl := lv_entry ([.ref a0]) (n := 3) (Nat.le_of_ble_eq_true rfl)
  rw [lg_entry_eq]
  generalize (lg_sl ([.ref a0]) ++ List.replicate (3 - (lg_sl ([.ref a0])).length) Slot.unset).toArray = ls at hl ⊢
  replace hl : lv_has ls 3 [(0, .ref a0)] := hl
  refine lv_iconst (v := 0) hx hb dX12_off_0 (by decide) ?_
  refine lv_istore_n (lv' := [(1, .int 0), (0, .ref a0)]) hx hb dX12_off_1 rfl hl (by decide) rfl (fun ls hl => ?_)
  refine lv_iconst (v := 0) hx hb dX12_off_2 (by decide) ?_
  refine lv_istore_n (lv' := [(2, .int 0), (1, .int 0), (0, .ref a0)]) hx hb dX12_off_3 rfl hl (by decide) rfl (fun ls hl => ?_)
  refine lv_iload_n hx hb dX12_off_4 rfl (lv_at hl 0 rfl) ?_
  refine lv_aload_n hx hb dX12_off_5 rfl (lv_at hl 2 rfl) ?_
  have hPc := hP.sub (ws' := [(a0, .inr (12, MF ad 0 v3 0 (-1) v6 v7 v8 v9 vN 0 v36 v37 v38 v39 v40 v41 0 0 0 0 0)), ((ad 13), .inl (cI, 2, .inl fT))]) [0, 1] rfl
  refine vp_callSi (va_runV (As := []) (rest := [.int 0]) ⟨hx, hb, hml, hown, hts⟩ (m_many l D cI cB cL cZ a0 ad v3 v6 v7 v8 v9 v36 v37 v38 v39 v40 v41 vN fT hf_fT_0) (cwV 0 hts gX12_off_X12_many rfl rfl rfl (by decide +kernel) ⟨Nat.le_of_ble_eq_true rfl, Nat.le_of_ble_eq_true rfl⟩) ⟨xr_blind, va_recv hK hPc (ci := 12) (q0 := 0) rfl rfl, fun U hU hW => xr_mk hU hW hPc hK⟩ rfl rfl hl.1 rfl (lv_room (Nat.le_of_ble_eq_true rfl)) dX12_off_6 ⟨Nat.le_of_ble_eq_true rfl, Nat.le_of_ble_eq_true rfl⟩).run (fun r_1 hr_1 => ?_)
  clear hPc
  subst hr_1
  refine lv_icmp_ge (tgt := 26) hx hb dX12_off_9 (by decide) (fun _ => ?_) (fun c_2 => absurd (by decide) c_2)
  refine lv_iload_n hx hb dX12_off_26 rfl (lv_at hl 1 rfl) ?_
  exact W.iret (v := 0) hx hb hr (fun t ht hW => ⟨0, rfl, rfl, ht⟩) (fun q hq => by cases hq) dX12_off_27
set_option maxHeartbeats 4000000 in
set_option maxRecDepth 100000 in
theorem m_rightOnes (l : Launch) (D : va_G) (cI : ClassId) (cB : ClassId) (cL : ClassId) (cZ : ClassId) (a0 : Nat) (ad : Nat → Nat) (v3 : Int32) (v6 : Int32) (v7 : Int32) (v8 : Int32) (v9 : Int32) (v36 : Int32) (v37 : Int32) (v38 : Int32) (v39 : Int32) (v40 : Int32) (v41 : Int32) (vN : Int64) (fT : Nat → Int32) (hf_fT_0 : fT 0 = 0) : Met l yX12_rightOnes wsX12_rightOnes ({ frames := 1, cells := 0, slots := 0, locals := 20 }) (xr D [(cI, .int), (cB, .byte), (cL, .long), (cZ, .boolean)] [(a0, .inr (12, MF ad 0 v3 0 (-1) v6 v7 v8 v9 vN 0 v36 v37 v38 v39 v40 v41 0 0 0 0 0)), ((ad 13), .inl (cI, 2, .inl fT))] [.ref a0]) (vp_Si (fun r => r = 0)) 0 0 (fun _ => False) := by
  refine Met.ofW (cc := cX12_rightOnes) (maxL := 3) (ret := (some .int)) (by decide) rfl ?_
  intro p e s m args below meth c s₁ B hml hv
  obtain ⟨rfl, hP, hK⟩ := hv
  have hx := B.exec
  have hb := B.bytes
  have hr := B.returns
  have hts := atoms_spec (ws := wsX12_rightOnes) B.pre
  have hown : s.vm.findClass RX12 = some m.cls := findClass_of_methodNamed B.named
  have hlocks := B.notSynchronized
  have hl := lv_entry ([.ref a0]) (n := 3) (Nat.le_of_ble_eq_true rfl)
  rw [lg_entry_eq]
  generalize (lg_sl ([.ref a0]) ++ List.replicate (3 - (lg_sl ([.ref a0])).length) Slot.unset).toArray = ls at hl ⊢
  replace hl : lv_has ls 3 [(0, .ref a0)] := hl
  refine lv_iconst (v := 0) hx hb dX12_rightOnes_0 (by decide) ?_
  refine lv_istore_n (lv' := [(1, .int 0), (0, .ref a0)]) hx hb dX12_rightOnes_1 rfl hl (by decide) rfl (fun ls hl => ?_)
  refine lv_iconst (v := 0) hx hb dX12_rightOnes_2 (by decide) ?_
  refine lv_istore_n (lv' := [(2, .int 0), (1, .int 0), (0, .ref a0)]) hx hb dX12_rightOnes_3 rfl hl (by decide) rfl (fun ls hl => ?_)
  refine lv_iload_n hx hb dX12_rightOnes_4 rfl (lv_at hl 0 rfl) ?_
  refine lv_aload_n hx hb dX12_rightOnes_5 rfl (lv_at hl 2 rfl) ?_
  have hPc := hP.sub (ws' := [(a0, .inr (12, MF ad 0 v3 0 (-1) v6 v7 v8 v9 vN 0 v36 v37 v38 v39 v40 v41 0 0 0 0 0)), ((ad 13), .inl (cI, 2, .inl fT))]) [0, 1] rfl
  refine vp_callSi (va_runV (As := []) (rest := [.int 0]) ⟨hx, hb, hml, hown, hts⟩ (m_many l D cI cB cL cZ a0 ad v3 v6 v7 v8 v9 v36 v37 v38 v39 v40 v41 vN fT hf_fT_0) (cwV 0 hts gX12_rightOnes_X12_many rfl rfl rfl (by decide +kernel) ⟨Nat.le_of_ble_eq_true rfl, Nat.le_of_ble_eq_true rfl⟩) ⟨xr_blind, va_recv hK hPc (ci := 12) (q0 := 0) rfl rfl, fun U hU hW => xr_mk hU hW hPc hK⟩ rfl rfl hl.1 rfl (lv_room (Nat.le_of_ble_eq_true rfl)) dX12_rightOnes_6 ⟨Nat.le_of_ble_eq_true rfl, Nat.le_of_ble_eq_true rfl⟩).run (fun r_1 hr_1 => ?_)
  clear hPc
  subst hr_1
  refine lv_icmp_ge (tgt := 44) hx hb dX12_rightOnes_9 (by decide) (fun _ => ?_) (fun c_2 => absurd (by decide) c_2)
  refine lv_iload_n hx hb dX12_rightOnes_44 rfl (lv_at hl 1 rfl) ?_
  exact W.iret (v := 0) hx hb hr (fun t ht hW => ⟨0, rfl, rfl, ht⟩) (fun q hq => by cases hq) dX12_rightOnes_45
set_option maxHeartbeats 4000000 in
set_option maxRecDepth 100000 in
theorem m_right (l : Launch) (D : va_G) (cI : ClassId) (cB : ClassId) (cL : ClassId) (cZ : ClassId) (a0 : Nat) (ad : Nat → Nat) (v3 : Int32) (v6 : Int32) (v7 : Int32) (v8 : Int32) (v9 : Int32) (v36 : Int32) (v37 : Int32) (v38 : Int32) (v39 : Int32) (v40 : Int32) (v41 : Int32) (vN : Int64) (fT : Nat → Int32) (hf_fT_0 : fT 0 = 0) : Met l yX12_right wsX12_right ({ frames := 2, cells := 0, slots := 0, locals := 42 }) (xr D [(cI, .int), (cB, .byte), (cL, .long), (cZ, .boolean)] [(a0, .inr (12, MF ad 0 v3 0 (-1) v6 v7 v8 v9 vN 0 v36 v37 v38 v39 v40 v41 0 0 0 0 0)), ((ad 13), .inl (cI, 2, .inl fT))] [.ref a0]) (vp_Si (fun r => r = 0)) 0 0 (fun _ => False) := by
  refine Met.ofW (cc := cX12_right) (maxL := 1) (ret := (some .int)) (by decide) rfl ?_
  intro p e s m args below meth c s₁ B hml hv
  obtain ⟨rfl, hP, hK⟩ := hv
  have hx := B.exec
  have hb := B.bytes
  have hr := B.returns
  have hts := atoms_spec (ws := wsX12_right) B.pre
  have hown : s.vm.findClass RX12 = some m.cls := findClass_of_methodNamed B.named
  have hlocks := B.notSynchronized
  have hl := lv_entry ([.ref a0]) (n := 1) (Nat.le_of_ble_eq_true rfl)
  rw [lg_entry_eq]
  generalize (lg_sl ([.ref a0]) ++ List.replicate (1 - (lg_sl ([.ref a0])).length) Slot.unset).toArray = ls at hl ⊢
  replace hl : lv_has ls 1 [(0, .ref a0)] := hl
  refine lv_aload_n hx hb dX12_right_0 rfl (lv_at hl 0 rfl) ?_
  have hPc := hP.sub (ws' := [(a0, .inr (12, MF ad 0 v3 0 (-1) v6 v7 v8 v9 vN 0 v36 v37 v38 v39 v40 v41 0 0 0 0 0)), ((ad 13), .inl (cI, 2, .inl fT))]) [0, 1] rfl
  refine vp_callSi (va_runV (As := []) (rest := []) ⟨hx, hb, hml, hown, hts⟩ (m_rightOnes l D cI cB cL cZ a0 ad v3 v6 v7 v8 v9 v36 v37 v38 v39 v40 v41 vN fT hf_fT_0) (cwV 0 hts gX12_right_X12_rightOnes rfl rfl rfl (by decide +kernel) ⟨Nat.le_of_ble_eq_true rfl, Nat.le_of_ble_eq_true rfl⟩) ⟨xr_blind, va_recv hK hPc (ci := 12) (q0 := 0) rfl rfl, fun U hU hW => xr_mk hU hW hPc hK⟩ rfl rfl hl.1 rfl (lv_room (Nat.le_of_ble_eq_true rfl)) dX12_right_1 ⟨Nat.le_of_ble_eq_true rfl, Nat.le_of_ble_eq_true rfl⟩).run (fun r_1 hr_1 => ?_)
  clear hPc
  subst hr_1
  exact W.iret (v := 0) hx hb hr (fun t ht hW => ⟨0, rfl, rfl, ht⟩) (fun q hq => by cases hq) dX12_right_4
set_option maxHeartbeats 4000000 in
set_option maxRecDepth 100000 in
theorem m_deep (l : Launch) (D : va_G) (cI : ClassId) (cB : ClassId) (cL : ClassId) (cZ : ClassId) (a0 : Nat) (ad : Nat → Nat) (v3 : Int32) (v6 : Int32) (v7 : Int32) (v8 : Int32) (v9 : Int32) (v36 : Int32) (v37 : Int32) (v38 : Int32) (v39 : Int32) (v40 : Int32) (v41 : Int32) (vN : Int64) (fT : Nat → Int32) (x : Int32) (hf_fT_0 : fT 0 = 0) : Met l yX12_deep wsX12_deep ({ frames := 1, cells := 0, slots := 0, locals := 22 }) (xr D [(cI, .int), (cB, .byte), (cL, .long), (cZ, .boolean)] [(a0, .inr (12, MF ad 0 v3 0 (-1) v6 v7 v8 v9 vN 0 v36 v37 v38 v39 v40 v41 0 0 0 0 0)), ((ad 13), .inl (cI, 2, .inl fT))] [.ref a0, .int x]) (vp_Si (fun r => r = sp_rng 99 x)) 0 0 (fun _ => False) := by
  refine Met.ofW (cc := cX12_deep) (maxL := 4) (ret := (some .int)) (by decide) rfl ?_
  intro p e s m args below meth c s₁ B hml hv
  obtain ⟨rfl, hP, hK⟩ := hv
  have hx := B.exec
  have hb := B.bytes
  have hr := B.returns
  have hts := atoms_spec (ws := wsX12_deep) B.pre
  have hown : s.vm.findClass RX12 = some m.cls := findClass_of_methodNamed B.named
  have hlocks := B.notSynchronized
  have hl := lv_entry ([.ref a0, .int x]) (n := 4) (Nat.le_of_ble_eq_true rfl)
  rw [lg_entry_eq]
  generalize (lg_sl ([.ref a0, .int x]) ++ List.replicate (4 - (lg_sl ([.ref a0, .int x])).length) Slot.unset).toArray = ls at hl ⊢
  replace hl : lv_has ls 4 [(0, .ref a0), (1, .int x)] := hl
  refine lv_iload_n hx hb dX12_deep_0 rfl (lv_at hl 1 rfl) ?_
  refine lv_iconst (v := 0) hx hb dX12_deep_1 (by decide) ?_
  refine lv_bipush (v := 99) hx hb dX12_deep_2 (by decide) ?_
  have hPc := hP.sub (ws' := []) [] rfl
  refine vp_callSi (va_runS (As := [.int x, .int 0, .int 99]) (rest := []) ⟨hx, hb, hml, hown, hts⟩ (m_isIn l D cI cB cL cZ x 0 99) (va_cwS 3 hts gX12_deep_X12_isIn rfl rfl rfl (by decide +kernel) ⟨Nat.le_of_ble_eq_true rfl, Nat.le_of_ble_eq_true rfl⟩) ⟨xr_blind, fun U hU hW => xr_mk hU hW hPc hK⟩ rfl rfl hl.1 rfl (lv_room (Nat.le_of_ble_eq_true rfl)) dX12_deep_4 ⟨Nat.le_of_ble_eq_true rfl, Nat.le_of_ble_eq_true rfl⟩).run (fun r_1 hr_1 => ?_)
  clear hPc
  rcases hr_1 with ⟨rfl, hr_1_0, hr_1_1⟩ | ⟨rfl, hr_1_0⟩ | ⟨rfl, hr_1_0, hr_1_1⟩
  · refine lv_if_ne (tgt := 12) hx hb dX12_deep_7 (by decide) (fun _ => ?_) (fun c_2 => absurd c_2 (by decide))
    refine lv_iconst (v := 0) hx hb dX12_deep_12 (by decide) ?_
    refine lv_istore_n (lv' := [(2, .int 0), (0, .ref a0), (1, .int x)]) hx hb dX12_deep_13 rfl hl (by decide) rfl (fun ls hl => ?_)
    refine lv_iconst (v := 0) hx hb dX12_deep_14 (by decide) ?_
    refine lv_istore_n (lv' := [(3, .int 0), (2, .int 0), (0, .ref a0), (1, .int x)]) hx hb dX12_deep_15 rfl hl (by decide) rfl (fun ls hl => ?_)
    refine lv_iload_n hx hb dX12_deep_16 rfl (lv_at hl 0 rfl) ?_
    refine lv_aload_n hx hb dX12_deep_17 rfl (lv_at hl 2 rfl) ?_
    have hPc := hP.sub (ws' := [(a0, .inr (12, MF ad 0 v3 0 (-1) v6 v7 v8 v9 vN 0 v36 v37 v38 v39 v40 v41 0 0 0 0 0)), ((ad 13), .inl (cI, 2, .inl fT))]) [0, 1] rfl
    refine vp_callSi (va_runV (As := []) (rest := [.int 0]) ⟨hx, hb, hml, hown, hts⟩ (m_many l D cI cB cL cZ a0 ad v3 v6 v7 v8 v9 v36 v37 v38 v39 v40 v41 vN fT hf_fT_0) (cwV 0 hts gX12_deep_X12_many rfl rfl rfl (by decide +kernel) ⟨Nat.le_of_ble_eq_true rfl, Nat.le_of_ble_eq_true rfl⟩) ⟨xr_blind, va_recv hK hPc (ci := 12) (q0 := 0) rfl rfl, fun U hU hW => xr_mk hU hW hPc hK⟩ rfl rfl hl.1 rfl (lv_room (Nat.le_of_ble_eq_true rfl)) dX12_deep_18 ⟨Nat.le_of_ble_eq_true rfl, Nat.le_of_ble_eq_true rfl⟩).run (fun r_3 hr_3 => ?_)
    clear hPc
    subst hr_3
    refine lv_icmp_ge (tgt := 49) hx hb dX12_deep_21 (by decide) (fun _ => ?_) (fun c_4 => absurd (by decide) c_4)
    refine lv_iload_n hx hb dX12_deep_49 rfl (lv_at hl 1 rfl) ?_
    exact W.iret (v := 0) hx hb hr (fun t ht hW => ⟨0, rfl, (sp_rng_in hr_1_0 hr_1_1).symm, ht⟩) (fun q hq => by cases hq) dX12_deep_50
  · refine lv_if_ne (tgt := 12) hx hb dX12_deep_7 (by decide) (fun c_5 => absurd (by decide) c_5) (fun _ => ?_)
    refine lv_iconst (v := (-1)) hx hb dX12_deep_10 (by decide) ?_
    exact W.iret (v := (-1)) hx hb hr (fun t ht hW => ⟨(-1), rfl, (sp_rng_lt hr_1_0).symm, ht⟩) (fun q hq => by cases hq) dX12_deep_11
  · refine lv_if_ne (tgt := 12) hx hb dX12_deep_7 (by decide) (fun c_6 => absurd (by decide) c_6) (fun _ => ?_)
    refine lv_iconst (v := (-1)) hx hb dX12_deep_10 (by decide) ?_
    exact W.iret (v := (-1)) hx hb hr (fun t ht hW => ⟨(-1), rfl, (sp_rng_gt hr_1_0 hr_1_1).symm, ht⟩) (fun q hq => by cases hq) dX12_deep_11
set_option maxHeartbeats 4000000 in
set_option maxRecDepth 100000 in
theorem m_stay (l : Launch) (D : va_G) (cI : ClassId) (cB : ClassId) (cL : ClassId) (cZ : ClassId) (a0 : Nat) (ad : Nat → Nat) (v3 : Int32) (v6 : Int32) (v7 : Int32) (v8 : Int32) (v9 : Int32) (v36 : Int32) (v37 : Int32) (v38 : Int32) (v39 : Int32) (v40 : Int32) (v41 : Int32) (vN : Int64) (fT : Nat → Int32) (x : Int32) (y : Int32) (z : Int32) (hf_fT_0 : fT 0 = 0) : Met l yX12_stay wsX12_stay ({ frames := 2, cells := 0, slots := 0, locals := 43 }) (xr D [(cI, .int), (cB, .byte), (cL, .long), (cZ, .boolean)] [(a0, .inr (12, MF ad 0 v3 0 (-1) v6 v7 v8 v9 vN 0 v36 v37 v38 v39 v40 v41 0 0 0 0 0)), ((ad 13), .inl (cI, 2, .inl fT))] [.ref a0, .int x, .int y, .int z]) (vp_Si (fun r => r = (-1))) 0 0 (fun _ => False) := by
  refine Met.ofW (cc := cX12_stay) (maxL := 8) (ret := (some .int)) (by decide) rfl ?_
  intro p e s m args below meth c s₁ B hml hv
  obtain ⟨rfl, hP, hK⟩ := hv
  have hx := B.exec
  have hb := B.bytes
  have hr := B.returns
  have hts := atoms_spec (ws := wsX12_stay) B.pre
  have hown : s.vm.findClass RX12 = some m.cls := findClass_of_methodNamed B.named
  have hlocks := B.notSynchronized
  have hl := lv_entry ([.ref a0, .int x, .int y, .int z]) (n := 8) (Nat.le_of_ble_eq_true rfl)
  rw [lg_entry_eq]
  generalize (lg_sl ([.ref a0, .int x, .int y, .int z]) ++ List.replicate (8 - (lg_sl ([.ref a0, .int x, .int y, .int z])).length) Slot.unset).toArray = ls at hl ⊢
  replace hl : lv_has ls 8 [(0, .ref a0), (1, .int x), (2, .int y), (3, .int z)] := hl
  refine lv_aload_n hx hb dX12_stay_0 rfl (lv_at hl 0 rfl) ?_
  refine lv_iload_n hx hb dX12_stay_1 rfl (lv_at hl 1 rfl) ?_
  have hPc := hP.sub (ws' := [(a0, .inr (12, MF ad 0 v3 0 (-1) v6 v7 v8 v9 vN 0 v36 v37 v38 v39 v40 v41 0 0 0 0 0)), ((ad 13), .inl (cI, 2, .inl fT))]) [0, 1] rfl
  refine vp_callSi (va_runV (As := [.int x]) (rest := []) ⟨hx, hb, hml, hown, hts⟩ (m_isThing l D cI cB cL cZ a0 ad v3 v6 v7 v8 v9 v36 v37 v38 v39 v40 v41 vN fT x hf_fT_0) (cwV 1 hts gX12_stay_X12_isThing rfl rfl rfl (by decide +kernel) ⟨Nat.le_of_ble_eq_true rfl, Nat.le_of_ble_eq_true rfl⟩) ⟨xr_blind, va_recv hK hPc (ci := 12) (q0 := 0) rfl rfl, fun U hU hW => xr_mk hU hW hPc hK⟩ rfl rfl hl.1 rfl (lv_room (Nat.le_of_ble_eq_true rfl)) dX12_stay_2 ⟨Nat.le_of_ble_eq_true rfl, Nat.le_of_ble_eq_true rfl⟩).run (fun r_1 hr_1 => ?_)
  clear hPc
  subst hr_1
  refine lv_if_eq (tgt := 26) hx hb dX12_stay_5 (by decide) (fun _ => ?_) (fun c_2 => absurd (by decide) c_2)
  refine lv_iconst (v := (-1)) hx hb dX12_stay_26 (by decide) ?_
  exact W.iret (v := (-1)) hx hb hr (fun t ht hW => ⟨(-1), rfl, rfl, ht⟩) (fun q hq => by cases hq) dX12_stay_27
set_option maxHeartbeats 4000000 in
set_option maxRecDepth 100000 in
theorem m_will (l : Launch) (D : va_G) (cI : ClassId) (cB : ClassId) (cL : ClassId) (cZ : ClassId) (a0 : Nat) (ad : Nat → Nat) (v3 : Int32) (v6 : Int32) (v7 : Int32) (v8 : Int32) (v9 : Int32) (v36 : Int32) (v37 : Int32) (v38 : Int32) (v39 : Int32) (v40 : Int32) (v41 : Int32) (vN : Int64) (fT : Nat → Int32) (x : Int32) (y : Int32) (hf_fT_0 : fT 0 = 0) : Met l yX12_will wsX12_will ({ frames := 2, cells := 0, slots := 0, locals := 43 }) (xr D [(cI, .int), (cB, .byte), (cL, .long), (cZ, .boolean)] [(a0, .inr (12, MF ad 0 v3 0 (-1) v6 v7 v8 v9 vN 0 v36 v37 v38 v39 v40 v41 0 0 0 0 0)), ((ad 13), .inl (cI, 2, .inl fT))] [.ref a0, .int x, .int y]) (vp_Si (fun r => r = (-1))) 0 0 (fun _ => False) := by
  refine Met.ofW (cc := cX12_will) (maxL := 5) (ret := (some .int)) (by decide) rfl ?_
  intro p e s m args below meth c s₁ B hml hv
  obtain ⟨rfl, hP, hK⟩ := hv
  have hx := B.exec
  have hb := B.bytes
  have hr := B.returns
  have hts := atoms_spec (ws := wsX12_will) B.pre
  have hown : s.vm.findClass RX12 = some m.cls := findClass_of_methodNamed B.named
  have hlocks := B.notSynchronized
  have hl := lv_entry ([.ref a0, .int x, .int y]) (n := 5) (Nat.le_of_ble_eq_true rfl)
  rw [lg_entry_eq]
  generalize (lg_sl ([.ref a0, .int x, .int y]) ++ List.replicate (5 - (lg_sl ([.ref a0, .int x, .int y])).length) Slot.unset).toArray = ls at hl ⊢
  replace hl : lv_has ls 5 [(0, .ref a0), (1, .int x), (2, .int y)] := hl
  refine lv_aload_n hx hb dX12_will_0 rfl (lv_at hl 0 rfl) ?_
  refine lv_iload_n hx hb dX12_will_1 rfl (lv_at hl 1 rfl) ?_
  have hPc := hP.sub (ws' := [(a0, .inr (12, MF ad 0 v3 0 (-1) v6 v7 v8 v9 vN 0 v36 v37 v38 v39 v40 v41 0 0 0 0 0)), ((ad 13), .inl (cI, 2, .inl fT))]) [0, 1] rfl
  refine vp_callSi (va_runV (As := [.int x]) (rest := []) ⟨hx, hb, hml, hown, hts⟩ (m_isThing l D cI cB cL cZ a0 ad v3 v6 v7 v8 v9 v36 v37 v38 v39 v40 v41 vN fT x hf_fT_0) (cwV 1 hts gX12_will_X12_isThing rfl rfl rfl (by decide +kernel) ⟨Nat.le_of_ble_eq_true rfl, Nat.le_of_ble_eq_true rfl⟩) ⟨xr_blind, va_recv hK hPc (ci := 12) (q0 := 0) rfl rfl, fun U hU hW => xr_mk hU hW hPc hK⟩ rfl rfl hl.1 rfl (lv_room (Nat.le_of_ble_eq_true rfl)) dX12_will_2 ⟨Nat.le_of_ble_eq_true rfl, Nat.le_of_ble_eq_true rfl⟩).run (fun r_1 hr_1 => ?_)
  clear hPc
  subst hr_1
  refine lv_if_eq (tgt := 18) hx hb dX12_will_5 (by decide) (fun _ => ?_) (fun c_2 => absurd (by decide) c_2)
  refine lv_iconst (v := (-1)) hx hb dX12_will_18 (by decide) ?_
  exact W.iret (v := (-1)) hx hb hr (fun t ht hW => ⟨(-1), rfl, rfl, ht⟩) (fun q hq => by cases hq) dX12_will_19
set_option maxHeartbeats 4000000 in
set_option maxRecDepth 100000 in
theorem m_lost (l : Launch) (D : va_G) (cI : ClassId) (cB : ClassId) (cL : ClassId) (cZ : ClassId) (a0 : Nat) (ad : Nat → Nat) (v3 : Int32) (v6 : Int32) (v7 : Int32) (v8 : Int32) (v9 : Int32) (v36 : Int32) (v37 : Int32) (v38 : Int32) (v39 : Int32) (v40 : Int32) (v41 : Int32) (vN : Int64) (fT : Nat → Int32) (hf_fT_0 : fT 0 = 0) : Met l yX12_lost wsX12_lost ({ frames := 1, cells := 0, slots := 0, locals := 20 }) (xr D [(cI, .int), (cB, .byte), (cL, .long), (cZ, .boolean)] [(a0, .inr (12, MF ad 0 v3 0 (-1) v6 v7 v8 v9 vN 0 v36 v37 v38 v39 v40 v41 0 0 0 0 0)), ((ad 13), .inl (cI, 2, .inl fT))] [.ref a0]) (vp_Si (fun r => r = (-1))) 0 0 (fun _ => False) := by
  refine Met.ofW (cc := cX12_lost) (maxL := 4) (ret := (some .int)) (by decide) rfl ?_
  intro p e s m args below meth c s₁ B hml hv
  obtain ⟨rfl, hP, hK⟩ := hv
  have hx := B.exec
  have hb := B.bytes
  have hr := B.returns
  have hts := atoms_spec (ws := wsX12_lost) B.pre
  have hown : s.vm.findClass RX12 = some m.cls := findClass_of_methodNamed B.named
  have hlocks := B.notSynchronized
  have hl := lv_entry ([.ref a0]) (n := 4) (Nat.le_of_ble_eq_true rfl)
  rw [lg_entry_eq]
  generalize (lg_sl ([.ref a0]) ++ List.replicate (4 - (lg_sl ([.ref a0])).length) Slot.unset).toArray = ls at hl ⊢
  replace hl : lv_has ls 4 [(0, .ref a0)] := hl
  refine lv_aload_n hx hb dX12_lost_0 rfl (lv_at hl 0 rfl) ?_
  have hPc := hP.sub (ws' := [(a0, .inr (12, MF ad 0 v3 0 (-1) v6 v7 v8 v9 vN 0 v36 v37 v38 v39 v40 v41 0 0 0 0 0)), ((ad 13), .inl (cI, 2, .inl fT))]) [0, 1] rfl
  refine vp_callSi (va_runV (As := []) (rest := []) ⟨hx, hb, hml, hown, hts⟩ (m_many l D cI cB cL cZ a0 ad v3 v6 v7 v8 v9 v36 v37 v38 v39 v40 v41 vN fT hf_fT_0) (cwV 0 hts gX12_lost_X12_many rfl rfl rfl (by decide +kernel) ⟨Nat.le_of_ble_eq_true rfl, Nat.le_of_ble_eq_true rfl⟩) ⟨xr_blind, va_recv hK hPc (ci := 12) (q0 := 0) rfl rfl, fun U hU hW => xr_mk hU hW hPc hK⟩ rfl rfl hl.1 rfl (lv_room (Nat.le_of_ble_eq_true rfl)) dX12_lost_1 ⟨Nat.le_of_ble_eq_true rfl, Nat.le_of_ble_eq_true rfl⟩).run (fun r_1 hr_1 => ?_)
  clear hPc
  subst hr_1
  refine lv_if_ne (tgt := 9) hx hb dX12_lost_4 (by decide) (fun c_2 => absurd (by decide) c_2) (fun _ => ?_)
  refine lv_iconst (v := (-1)) hx hb dX12_lost_7 (by decide) ?_
  exact W.iret (v := (-1)) hx hb hr (fun t ht hW => ⟨(-1), rfl, rfl, ht⟩) (fun q hq => by cases hq) dX12_lost_8
