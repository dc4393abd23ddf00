set_option maxHeartbeats 4000000 in
set_option maxRecDepth 100000 in
theorem c_X11_isRoom (l : Launch) (D : va_G) (cI : ClassId) (cB : ClassId) (cL : ClassId) (cZ : ClassId) (cG : ClassId) (SO : Nat) (x0 : Int32) (PL : Nat) (DR : Nat) (TA : Nat) (RE : Nat) (FL : Nat) (RO : Nat) (HU : Nat) (ME : Nat) (TR : Nat) (NI : Nat) (PL_rooms : Int32) (aPL : Nat → Nat) (PL_doors : Int32) (PL_things : Int32) (FO : Nat) (PL_draw : Int32) (PL_drawTold : Int32) (b_PL_rooms : zB PL_rooms 0 8) (b_PL_doors : zB PL_doors 0 12) (b_PL_things : zB PL_things 0 6) : Met l yX11_isRoom wsX11_isRoom ({ frames := 0, cells := 0, slots := 0, locals := 0 }) (xr D [(cI, .int), (cB, .byte), (cL, .long), (cZ, .boolean), (cG, .array .int)] [(SO, .inr (11, oX11 PL DR TA RE FL RO HU ME TR NI)), (PL, .inr (5, oX5 FO aPL PL_rooms PL_doors PL_things PL_draw PL_drawTold))] [.ref SO, .int x0]) (vp_Si (fun r => (r = 0) ∨ (r = 1 ∧ zB x0 0 7))) 0 0 (fun _ => False) := by
  refine Met.ofW (cc := cX11_isRoom) (maxL := 2) (ret := (some .boolean)) (by decide) rfl ?_
  intro p e s m args below meth c s₁ B hml hv
  obtain ⟨rfl, hP, hK⟩ := hv
  have hx := B.exec
  have hb := B.bytes
  have hr := B.returns
  have hts := atoms_spec (ws := wsX11_isRoom) B.pre
  have hown : s.vm.findClass RX11 = some m.cls := findClass_of_methodNamed B.named
  have hlocks := B.notSynchronized
  clear B
  have hl := lv_entry ([.ref SO, .int x0]) (n := 2) (Nat.le_of_ble_eq_true rfl)
  rw [lg_entry_eq]
  generalize (lg_sl ([.ref SO, .int x0]) ++ List.replicate (2 - (lg_sl ([.ref SO, .int x0])).length) Slot.unset).toArray = ls at hl ⊢
  replace hl : lv_has ls 2 [(0, .ref SO), (1, .int x0)] := hl
  refine lv_iload_n hx hb dX11_isRoom_0 rfl (lv_at hl 1 rfl) ?_
  refine lv_if_lt (tgt := 19) hx hb dX11_isRoom_1 (by decide) (fun c1 => ?_) (fun c1 => ?_)
  · have bx1t_x0 : zB x0 (-2147483648) (-1) := zB_ltu (zl c1) (zB_top x0) (show zB 0 0 0 from ⟨by decide, by decide⟩) (by decide)
    refine lv_iconst (v := 0) hx hb dX11_isRoom_19 (by decide) ?_
    exact W.zret (v := 0) (ty := .boolean) hx hb hr (by decide) (fun t ht hW => ⟨0, rfl, Or.inl rfl, ht⟩) (fun q hq => by cases hq) dX11_isRoom_20
  · have by1f_x0 : zB x0 0 2147483647 := zB_lev (zg c1) (show zB 0 0 0 from ⟨by decide, by decide⟩) (zB_top x0) (by decide)
    refine lv_iload_n hx hb dX11_isRoom_4 rfl (lv_at hl 1 rfl) ?_
    refine lv_aload_n hx hb dX11_isRoom_5 rfl (lv_at hl 0 rfl) ?_
    refine va_get (D := D) (ci := 11) (v := .ref PL) (C := RX11) (T := TX11) (N := 10) hx hb hts iw_X11_isRoom_X11 hown hK hP 0 rfl rfl 0 (by decide) (hts (.fieldLink RX11 10 "SoldHouse" "plan" "LSoldHouse$Plan;") (List.mem_of_getElem? (i := 1) rfl)) (fun _ h9 => h9) rfl dX11_isRoom_6 ?_
    refine va_get (D := D) (ci := 5) (v := .int PL_rooms) (C := RX5) (T := TX5) (N := 16) hx hb hts iw_X11_isRoom_X5 hown hK hP 1 rfl rfl 0 (by decide) (hts (.fieldLink RX11 101 "SoldHouse$Plan" "rooms" "I") (List.mem_of_getElem? (i := 2) rfl)) (fun _ h9 => h9) rfl dX11_isRoom_9 ?_
    refine lv_icmp_ge (tgt := 19) hx hb dX11_isRoom_12 (by decide) (fun c12 => ?_) (fun c12 => ?_)
    · refine lv_iconst (v := 0) hx hb dX11_isRoom_19 (by decide) ?_
      exact W.zret (v := 0) (ty := .boolean) hx hb hr (by decide) (fun t ht hW => ⟨0, rfl, Or.inl rfl, ht⟩) (fun q hq => by cases hq) dX11_isRoom_20
    · have bx12f_x0 : zB x0 0 7 := zB_ltu (zf c12) by1f_x0 b_PL_rooms (by decide)
      have by12f_PL_rooms : zB PL_rooms 1 8 := zB_ltv (zf c12) bx12f_x0 b_PL_rooms (by decide)
      refine lv_iconst (v := 1) hx hb dX11_isRoom_15 (by decide) ?_
      refine lv_goto (tgt := 20) hx hb dX11_isRoom_16 (by decide) ?_
      exact W.zret (v := 1) (ty := .boolean) hx hb hr (by decide) (fun t ht hW => ⟨1, rfl, Or.inr (⟨rfl, bx12f_x0⟩), ht⟩) (fun q hq => by cases hq) dX11_isRoom_20
set_option maxHeartbeats 4000000 in
set_option maxRecDepth 100000 in
theorem c_X11_isThing (l : Launch) (D : va_G) (cI : ClassId) (cB : ClassId) (cL : ClassId) (cZ : ClassId) (cG : ClassId) (SO : Nat) (x0 : Int32) (PL : Nat) (DR : Nat) (TA : Nat) (RE : Nat) (FL : Nat) (RO : Nat) (HU : Nat) (ME : Nat) (TR : Nat) (NI : Nat) (PL_rooms : Int32) (aPL : Nat → Nat) (PL_doors : Int32) (PL_things : Int32) (FO : Nat) (PL_draw : Int32) (PL_drawTold : Int32) (b_PL_rooms : zB PL_rooms 0 8) (b_PL_doors : zB PL_doors 0 12) (b_PL_things : zB PL_things 0 6) : Met l yX11_isThing wsX11_isThing ({ frames := 0, cells := 0, slots := 0, locals := 0 }) (xr D [(cI, .int), (cB, .byte), (cL, .long), (cZ, .boolean), (cG, .array .int)] [(SO, .inr (11, oX11 PL DR TA RE FL RO HU ME TR NI)), (PL, .inr (5, oX5 FO aPL PL_rooms PL_doors PL_things PL_draw PL_drawTold))] [.ref SO, .int x0]) (vp_Si (fun r => (r = 0) ∨ (r = 1 ∧ zB x0 0 5))) 0 0 (fun _ => False) := by
  refine Met.ofW (cc := cX11_isThing) (maxL := 2) (ret := (some .boolean)) (by decide) rfl ?_
  intro p e s m args below meth c s₁ B hml hv
  obtain ⟨rfl, hP, hK⟩ := hv
  have hx := B.exec
  have hb := B.bytes
  have hr := B.returns
  have hts := atoms_spec (ws := wsX11_isThing) B.pre
  have hown : s.vm.findClass RX11 = some m.cls := findClass_of_methodNamed B.named
  have hlocks := B.notSynchronized
  clear B
  have hl := lv_entry ([.ref SO, .int x0]) (n := 2) (Nat.le_of_ble_eq_true rfl)
  rw [lg_entry_eq]
  generalize (lg_sl ([.ref SO, .int x0]) ++ List.replicate (2 - (lg_sl ([.ref SO, .int x0])).length) Slot.unset).toArray = ls at hl ⊢
  replace hl : lv_has ls 2 [(0, .ref SO), (1, .int x0)] := hl
  refine lv_iload_n hx hb dX11_isThing_0 rfl (lv_at hl 1 rfl) ?_
  refine lv_if_lt (tgt := 19) hx hb dX11_isThing_1 (by decide) (fun c1 => ?_) (fun c1 => ?_)
  · have bx1t_x0 : zB x0 (-2147483648) (-1) := zB_ltu (zl c1) (zB_top x0) (show zB 0 0 0 from ⟨by decide, by decide⟩) (by decide)
    refine lv_iconst (v := 0) hx hb dX11_isThing_19 (by decide) ?_
    exact W.zret (v := 0) (ty := .boolean) hx hb hr (by decide) (fun t ht hW => ⟨0, rfl, Or.inl rfl, ht⟩) (fun q hq => by cases hq) dX11_isThing_20
  · have by1f_x0 : zB x0 0 2147483647 := zB_lev (zg c1) (show zB 0 0 0 from ⟨by decide, by decide⟩) (zB_top x0) (by decide)
    refine lv_iload_n hx hb dX11_isThing_4 rfl (lv_at hl 1 rfl) ?_
    refine lv_aload_n hx hb dX11_isThing_5 rfl (lv_at hl 0 rfl) ?_
    refine va_get (D := D) (ci := 11) (v := .ref PL) (C := RX11) (T := TX11) (N := 10) hx hb hts iw_X11_isThing_X11 hown hK hP 0 rfl rfl 0 (by decide) (hts (.fieldLink RX11 10 "SoldHouse" "plan" "LSoldHouse$Plan;") (List.mem_of_getElem? (i := 1) rfl)) (fun _ h9 => h9) rfl dX11_isThing_6 ?_
    refine va_get (D := D) (ci := 5) (v := .int PL_things) (C := RX5) (T := TX5) (N := 16) hx hb hts iw_X11_isThing_X5 hown hK hP 1 rfl rfl 6 (by decide) (hts (.fieldLink RX11 253 "SoldHouse$Plan" "things" "I") (List.mem_of_getElem? (i := 2) rfl)) (fun _ h9 => h9) rfl dX11_isThing_9 ?_
    refine lv_icmp_ge (tgt := 19) hx hb dX11_isThing_12 (by decide) (fun c12 => ?_) (fun c12 => ?_)
    · refine lv_iconst (v := 0) hx hb dX11_isThing_19 (by decide) ?_
      exact W.zret (v := 0) (ty := .boolean) hx hb hr (by decide) (fun t ht hW => ⟨0, rfl, Or.inl rfl, ht⟩) (fun q hq => by cases hq) dX11_isThing_20
    · have bx12f_x0 : zB x0 0 5 := zB_ltu (zf c12) by1f_x0 b_PL_things (by decide)
      have by12f_PL_things : zB PL_things 1 6 := zB_ltv (zf c12) bx12f_x0 b_PL_things (by decide)
      refine lv_iconst (v := 1) hx hb dX11_isThing_15 (by decide) ?_
      refine lv_goto (tgt := 20) hx hb dX11_isThing_16 (by decide) ?_
      exact W.zret (v := 1) (ty := .boolean) hx hb hr (by decide) (fun t ht hW => ⟨1, rfl, Or.inr (⟨rfl, bx12f_x0⟩), ht⟩) (fun q hq => by cases hq) dX11_isThing_20
set_option maxHeartbeats 4000000 in
set_option maxRecDepth 100000 in
theorem c_X11_isDoor (l : Launch) (D : va_G) (cI : ClassId) (cB : ClassId) (cL : ClassId) (cZ : ClassId) (cG : ClassId) (SO : Nat) (x0 : Int32) (PL : Nat) (DR : Nat) (TA : Nat) (RE : Nat) (FL : Nat) (RO : Nat) (HU : Nat) (ME : Nat) (TR : Nat) (NI : Nat) (PL_rooms : Int32) (aPL : Nat → Nat) (PL_doors : Int32) (PL_things : Int32) (FO : Nat) (PL_draw : Int32) (PL_drawTold : Int32) (b_PL_rooms : zB PL_rooms 0 8) (b_PL_doors : zB PL_doors 0 12) (b_PL_things : zB PL_things 0 6) : Met l yX11_isDoor wsX11_isDoor ({ frames := 0, cells := 0, slots := 0, locals := 0 }) (xr D [(cI, .int), (cB, .byte), (cL, .long), (cZ, .boolean), (cG, .array .int)] [(SO, .inr (11, oX11 PL DR TA RE FL RO HU ME TR NI)), (PL, .inr (5, oX5 FO aPL PL_rooms PL_doors PL_things PL_draw PL_drawTold))] [.ref SO, .int x0]) (vp_Si (fun r => (r = 0) ∨ (r = 1 ∧ zB x0 0 11))) 0 0 (fun _ => False) := by
  refine Met.ofW (cc := cX11_isDoor) (maxL := 2) (ret := (some .boolean)) (by decide) rfl ?_
  intro p e s m args below meth c s₁ B hml hv
  obtain ⟨rfl, hP, hK⟩ := hv
  have hx := B.exec
  have hb := B.bytes
  have hr := B.returns
  have hts := atoms_spec (ws := wsX11_isDoor) B.pre
  have hown : s.vm.findClass RX11 = some m.cls := findClass_of_methodNamed B.named
  have hlocks := B.notSynchronized
  clear B
  have hl := lv_entry ([.ref SO, .int x0]) (n := 2) (Nat.le_of_ble_eq_true rfl)
  rw [lg_entry_eq]
  generalize (lg_sl ([.ref SO, .int x0]) ++ List.replicate (2 - (lg_sl ([.ref SO, .int x0])).length) Slot.unset).toArray = ls at hl ⊢
  replace hl : lv_has ls 2 [(0, .ref SO), (1, .int x0)] := hl
  refine lv_iload_n hx hb dX11_isDoor_0 rfl (lv_at hl 1 rfl) ?_
  refine lv_if_lt (tgt := 19) hx hb dX11_isDoor_1 (by decide) (fun c1 => ?_) (fun c1 => ?_)
  · have bx1t_x0 : zB x0 (-2147483648) (-1) := zB_ltu (zl c1) (zB_top x0) (show zB 0 0 0 from ⟨by decide, by decide⟩) (by decide)
    refine lv_iconst (v := 0) hx hb dX11_isDoor_19 (by decide) ?_
    exact W.zret (v := 0) (ty := .boolean) hx hb hr (by decide) (fun t ht hW => ⟨0, rfl, Or.inl rfl, ht⟩) (fun q hq => by cases hq) dX11_isDoor_20
  · have by1f_x0 : zB x0 0 2147483647 := zB_lev (zg c1) (show zB 0 0 0 from ⟨by decide, by decide⟩) (zB_top x0) (by decide)
    refine lv_iload_n hx hb dX11_isDoor_4 rfl (lv_at hl 1 rfl) ?_
    refine lv_aload_n hx hb dX11_isDoor_5 rfl (lv_at hl 0 rfl) ?_
    refine va_get (D := D) (ci := 11) (v := .ref PL) (C := RX11) (T := TX11) (N := 10) hx hb hts iw_X11_isDoor_X11 hown hK hP 0 rfl rfl 0 (by decide) (hts (.fieldLink RX11 10 "SoldHouse" "plan" "LSoldHouse$Plan;") (List.mem_of_getElem? (i := 1) rfl)) (fun _ h9 => h9) rfl dX11_isDoor_6 ?_
    refine va_get (D := D) (ci := 5) (v := .int PL_doors) (C := RX5) (T := TX5) (N := 16) hx hb hts iw_X11_isDoor_X5 hown hK hP 1 rfl rfl 3 (by decide) (hts (.fieldLink RX11 309 "SoldHouse$Plan" "doors" "I") (List.mem_of_getElem? (i := 2) rfl)) (fun _ h9 => h9) rfl dX11_isDoor_9 ?_
    refine lv_icmp_ge (tgt := 19) hx hb dX11_isDoor_12 (by decide) (fun c12 => ?_) (fun c12 => ?_)
    · refine lv_iconst (v := 0) hx hb dX11_isDoor_19 (by decide) ?_
      exact W.zret (v := 0) (ty := .boolean) hx hb hr (by decide) (fun t ht hW => ⟨0, rfl, Or.inl rfl, ht⟩) (fun q hq => by cases hq) dX11_isDoor_20
    · have bx12f_x0 : zB x0 0 11 := zB_ltu (zf c12) by1f_x0 b_PL_doors (by decide)
      have by12f_PL_doors : zB PL_doors 1 12 := zB_ltv (zf c12) bx12f_x0 b_PL_doors (by decide)
      refine lv_iconst (v := 1) hx hb dX11_isDoor_15 (by decide) ?_
      refine lv_goto (tgt := 20) hx hb dX11_isDoor_16 (by decide) ?_
      exact W.zret (v := 1) (ty := .boolean) hx hb hr (by decide) (fun t ht hW => ⟨1, rfl, Or.inr (⟨rfl, bx12f_x0⟩), ht⟩) (fun q hq => by cases hq) dX11_isDoor_20
set_option maxHeartbeats 4000000 in
set_option maxRecDepth 100000 in
theorem c_X11_areRooms (l : Launch) (D : va_G) (cI : ClassId) (cB : ClassId) (cL : ClassId) (cZ : ClassId) (cG : ClassId) (SO : Nat) (x0 : Int32) (PL : Nat) (DR : Nat) (TA : Nat) (RE : Nat) (FL : Nat) (RO : Nat) (HU : Nat) (ME : Nat) (TR : Nat) (NI : Nat) (PL_rooms : Int32) (aPL : Nat → Nat) (PL_doors : Int32) (PL_things : Int32) (FO : Nat) (PL_draw : Int32) (PL_drawTold : Int32) (b_PL_rooms : zB PL_rooms 0 8) (b_PL_doors : zB PL_doors 0 12) (b_PL_things : zB PL_things 0 6) : Met l yX11_areRooms wsX11_areRooms ({ frames := 0, cells := 0, slots := 0, locals := 0 }) (xr D [(cI, .int), (cB, .byte), (cL, .long), (cZ, .boolean), (cG, .array .int)] [(SO, .inr (11, oX11 PL DR TA RE FL RO HU ME TR NI)), (PL, .inr (5, oX5 FO aPL PL_rooms PL_doors PL_things PL_draw PL_drawTold))] [.ref SO, .int x0]) (vp_Si (fun r => (r = 0) ∨ (r = 1 ∧ zB x0 0 255))) 0 0 (fun _ => False) := by
  refine Met.ofW (cc := cX11_areRooms) (maxL := 2) (ret := (some .boolean)) (by decide) rfl ?_
  intro p e s m args below meth c s₁ B hml hv
  obtain ⟨rfl, hP, hK⟩ := hv
  have hx := B.exec
  have hb := B.bytes
  have hr := B.returns
  have hts := atoms_spec (ws := wsX11_areRooms) B.pre
  have hown : s.vm.findClass RX11 = some m.cls := findClass_of_methodNamed B.named
  have hlocks := B.notSynchronized
  clear B
  have hl := lv_entry ([.ref SO, .int x0]) (n := 2) (Nat.le_of_ble_eq_true rfl)
  rw [lg_entry_eq]
  generalize (lg_sl ([.ref SO, .int x0]) ++ List.replicate (2 - (lg_sl ([.ref SO, .int x0])).length) Slot.unset).toArray = ls at hl ⊢
  replace hl : lv_has ls 2 [(0, .ref SO), (1, .int x0)] := hl
  refine lv_iload_n hx hb dX11_areRooms_0 rfl (lv_at hl 1 rfl) ?_
  refine lv_if_lt (tgt := 21) hx hb dX11_areRooms_1 (by decide) (fun c1 => ?_) (fun c1 => ?_)
  · have bx1t_x0 : zB x0 (-2147483648) (-1) := zB_ltu (zl c1) (zB_top x0) (show zB 0 0 0 from ⟨by decide, by decide⟩) (by decide)
    refine lv_iconst (v := 0) hx hb dX11_areRooms_21 (by decide) ?_
    exact W.zret (v := 0) (ty := .boolean) hx hb hr (by decide) (fun t ht hW => ⟨0, rfl, Or.inl rfl, ht⟩) (fun q hq => by cases hq) dX11_areRooms_22
  · have by1f_x0 : zB x0 0 2147483647 := zB_lev (zg c1) (show zB 0 0 0 from ⟨by decide, by decide⟩) (zB_top x0) (by decide)
    refine lv_iload_n hx hb dX11_areRooms_4 rfl (lv_at hl 1 rfl) ?_
    refine lv_iconst (v := 1) hx hb dX11_areRooms_5 (by decide) ?_
    refine lv_aload_n hx hb dX11_areRooms_6 rfl (lv_at hl 0 rfl) ?_
    refine va_get (D := D) (ci := 11) (v := .ref PL) (C := RX11) (T := TX11) (N := 10) hx hb hts iw_X11_areRooms_X11 hown hK hP 0 rfl rfl 0 (by decide) (hts (.fieldLink RX11 10 "SoldHouse" "plan" "LSoldHouse$Plan;") (List.mem_of_getElem? (i := 1) rfl)) (fun _ h9 => h9) rfl dX11_areRooms_7 ?_
    refine va_get (D := D) (ci := 5) (v := .int PL_rooms) (C := RX5) (T := TX5) (N := 16) hx hb hts iw_X11_areRooms_X5 hown hK hP 1 rfl rfl 0 (by decide) (hts (.fieldLink RX11 101 "SoldHouse$Plan" "rooms" "I") (List.mem_of_getElem? (i := 2) rfl)) (fun _ h9 => h9) rfl dX11_areRooms_10 ?_
    refine lv_ishl hx hb dX11_areRooms_13 ?_
    refine zi_top (a := 1) (b := 256) (zB_shl1 b_PL_rooms (by decide) (by decide) (by decide) (by decide)) (fun y13 by13 => ?_)
    refine lv_icmp_ge (tgt := 21) hx hb dX11_areRooms_14 (by decide) (fun c14 => ?_) (fun c14 => ?_)
    · have by14t_x0 : zB x0 1 2147483647 := zB_lev (ze c14) by13 by1f_x0 (by decide)
      refine lv_iconst (v := 0) hx hb dX11_areRooms_21 (by decide) ?_
      exact W.zret (v := 0) (ty := .boolean) hx hb hr (by decide) (fun t ht hW => ⟨0, rfl, Or.inl rfl, ht⟩) (fun q hq => by cases hq) dX11_areRooms_22
    · have bx14f_x0 : zB x0 0 255 := zB_ltu (zf c14) by1f_x0 by13 (by decide)
      refine lv_iconst (v := 1) hx hb dX11_areRooms_17 (by decide) ?_
      refine lv_goto (tgt := 22) hx hb dX11_areRooms_18 (by decide) ?_
      exact W.zret (v := 1) (ty := .boolean) hx hb hr (by decide) (fun t ht hW => ⟨1, rfl, Or.inr (⟨rfl, bx14f_x0⟩), ht⟩) (fun q hq => by cases hq) dX11_areRooms_22
set_option maxHeartbeats 4000000 in
set_option maxRecDepth 100000 in
theorem c_X11_isMinute (l : Launch) (D : va_G) (cI : ClassId) (cB : ClassId) (cL : ClassId) (cZ : ClassId) (cG : ClassId) (x0 : Int32) : Met l yX11_isMinute wsX11_isMinute ({ frames := 0, cells := 0, slots := 0, locals := 0 }) (xr D [(cI, .int), (cB, .byte), (cL, .long), (cZ, .boolean), (cG, .array .int)] [] [.int x0]) (vp_Si (fun r => (r = 0) ∨ (r = 1 ∧ zB x0 0 7))) 0 0 (fun _ => False) := by
  refine Met.ofW (cc := cX11_isMinute) (maxL := 1) (ret := (some .boolean)) (by decide) rfl ?_
  intro p e s m args below meth c s₁ B hml hv
  obtain ⟨rfl, hP, hK⟩ := hv
  have hx := B.exec
  have hb := B.bytes
  have hr := B.returns
  have hts := atoms_spec (ws := wsX11_isMinute) B.pre
  have hown : s.vm.findClass RX11 = some m.cls := findClass_of_methodNamed B.named
  have hlocks := B.notSynchronized
  clear B
  have hl := lv_entry ([.int x0]) (n := 1) (Nat.le_of_ble_eq_true rfl)
  rw [lg_entry_eq]
  generalize (lg_sl ([.int x0]) ++ List.replicate (1 - (lg_sl ([.int x0])).length) Slot.unset).toArray = ls at hl ⊢
  replace hl : lv_has ls 1 [(0, .int x0)] := hl
  refine lv_iload_n hx hb dX11_isMinute_0 rfl (lv_at hl 0 rfl) ?_
  refine lv_if_lt (tgt := 14) hx hb dX11_isMinute_1 (by decide) (fun c1 => ?_) (fun c1 => ?_)
  · have bx1t_x0 : zB x0 (-2147483648) (-1) := zB_ltu (zl c1) (zB_top x0) (show zB 0 0 0 from ⟨by decide, by decide⟩) (by decide)
    refine lv_iconst (v := 0) hx hb dX11_isMinute_14 (by decide) ?_
    exact W.zret (v := 0) (ty := .boolean) hx hb hr (by decide) (fun t ht hW => ⟨0, rfl, Or.inl rfl, ht⟩) (fun q hq => by cases hq) dX11_isMinute_15
  · have by1f_x0 : zB x0 0 2147483647 := zB_lev (zg c1) (show zB 0 0 0 from ⟨by decide, by decide⟩) (zB_top x0) (by decide)
    refine lv_iload_n hx hb dX11_isMinute_4 rfl (lv_at hl 0 rfl) ?_
    refine lv_bipush (v := 8) hx hb dX11_isMinute_5 (by decide) ?_
    refine lv_icmp_ge (tgt := 14) hx hb dX11_isMinute_7 (by decide) (fun c7 => ?_) (fun c7 => ?_)
    · have by7t_x0 : zB x0 8 2147483647 := zB_lev (ze c7) (show zB 8 8 8 from ⟨by decide, by decide⟩) by1f_x0 (by decide)
      refine lv_iconst (v := 0) hx hb dX11_isMinute_14 (by decide) ?_
      exact W.zret (v := 0) (ty := .boolean) hx hb hr (by decide) (fun t ht hW => ⟨0, rfl, Or.inl rfl, ht⟩) (fun q hq => by cases hq) dX11_isMinute_15
    · have bx7f_x0 : zB x0 0 7 := zB_ltu (zf c7) by1f_x0 (show zB 8 8 8 from ⟨by decide, by decide⟩) (by decide)
      refine lv_iconst (v := 1) hx hb dX11_isMinute_10 (by decide) ?_
      refine lv_goto (tgt := 15) hx hb dX11_isMinute_11 (by decide) ?_
      exact W.zret (v := 1) (ty := .boolean) hx hb hr (by decide) (fun t ht hW => ⟨1, rfl, Or.inr (⟨rfl, bx7f_x0⟩), ht⟩) (fun q hq => by cases hq) dX11_isMinute_15
set_option maxHeartbeats 4000000 in
set_option maxRecDepth 100000 in
theorem c_X11_takeUp (l : Launch) (D : va_G) (cI : ClassId) (cB : ClassId) (cL : ClassId) (cZ : ClassId) (cG : ClassId) (SO : Nat) (PL : Nat) (DR : Nat) (TA : Nat) (RE : Nat) (FL : Nat) (RO : Nat) (HU : Nat) (ME : Nat) (TR : Nat) (NI : Nat) (FP : Nat) (aFL : Nat → Nat) (FL_parting : Int32) (FL_next : Nat → Int32) (PL_rooms : Int32) (aPL : Nat → Nat) (PL_doors : Int32) (PL_things : Int32) (FO : Nat) (PL_draw : Int32) (PL_drawTold : Int32) (FL_far : Nat → Int32) (PL_doorFrom : Nat → Int32) (PL_doorTo : Nat → Int32) (FL_near : Nat → Int32) (aME : Nat → Nat) (ME_oldest : Int32) (ME_done : Int32) (ME_undone : Int32) (ME_now : Nat → Int32) (PL_in : Nat → Int32) (PL_was : Nat → Int32) (PL_ours : Nat → Int32) (ME_full : Nat → Int32) (ME_kept : Nat → Option Nat) (KRr : Nat → Nat) (KRf : Nat → Nat → Int32) (NI_count : Int32) (NI_time : Int32) (aNI : Nat → Nat) (aRO : Nat → Nat) (RO_lying : Int32) (sz : Nat) (b_PL_rooms : zB PL_rooms 0 8) (b_PL_doors : zB PL_doors 0 12) (b_PL_things : zB PL_things 0 6) (b_ME_oldest : zB ME_oldest 0 40) (b_ME_done : zB ME_done 0 40) (b_ME_undone : zB ME_undone 0 40) (b_NI_count : zB NI_count 0 30) (b_NI_time : zB NI_time 0 100000) (b_RO_lying : zB RO_lying 0 8) (s_FL_far_0 : zA FL_far 0 64 (-1) 7) (s_PL_doorFrom_0 : zA PL_doorFrom 0 12 0 7) (s_PL_doorTo_0 : zA PL_doorTo 0 12 0 7) (s_ME_now_0 : zA ME_now 0 12 0 7) (s_PL_in_0 : zA PL_in 0 6 0 7) (s_PL_was_0 : zA PL_was 0 6 0 7) (k_ME_kept : ∀ j, j < 41 → ME_kept j = some (KRr j)) (w_KR : ∀ j, j < 41 → zA (KRf j) 0 12 0 7) : Met l yX11_takeUp wsX11_takeUp ({ frames := 4, cells := 0, slots := 0, locals := 93 }) (xp D [(cI, .int), (cB, .byte), (cL, .long), (cZ, .boolean), (cG, .array .int)] ([(SO, .inr (11, oX11 PL DR TA RE FL RO HU ME TR NI)), (FL, .inr (0, oX0 FP aFL FL_parting)), ((aFL 1), .inl (cI, 8, .inl FL_next)), (PL, .inr (5, oX5 FO aPL PL_rooms PL_doors PL_things PL_draw PL_drawTold)), ((aFL 2), .inl (cI, 64, .inl FL_far)), ((aPL 4), .inl (cI, 12, .inl PL_doorFrom)), ((aPL 5), .inl (cI, 12, .inl PL_doorTo)), ((aFL 3), .inl (cI, 12, .inl FL_near)), (ME, .inr (3, oX3 FL aME ME_oldest ME_done ME_undone)), ((aME 1), .inl (cI, 32, .inl ME_now)), ((aPL 8), .inl (cI, 6, .inl PL_in)), ((aPL 9), .inl (cI, 6, .inl PL_was)), ((aPL 10), .inl (cI, 6, .inl PL_ours)), ((aME 8), .inl (cZ, 3, .inl ME_full)), ((aME 3), .inl (cG, 41, .inr (.inr (.inr (.inr ME_kept))))), (NI, .inr (4, oX4 FL aNI NI_count NI_time)), (RO, .inr (7, oX7 FL aRO RO_lying))] ++ rw41 cI KRr KRf) sz [] [.ref SO]) (va_Qv (fun _ : Unit => True) (fun (_ : Unit) (t : State) => ∃ (nFL_parting : Int32), ∃ (nFLnext : Nat → Int32), ∃ (nFLfar : Nat → Int32), ∃ (nFLnear : Nat → Int32), ∃ (nME_oldest : Int32), ∃ (nME_done : Int32), ∃ (nME_undone : Int32), ∃ (nMEnow : Nat → Int32), ∃ (nMEfull : Nat → Int32), ∃ (nNI_count : Int32), ∃ (nRO_lying : Int32), ∃ (nKRf : Nat → Nat → Int32), zA nFLfar 0 64 (-1) 7 ∧ zB nME_oldest 0 0 ∧ zB nME_done 0 0 ∧ zB nME_undone 0 0 ∧ zA nMEnow 0 12 0 7 ∧ zB nNI_count 0 0 ∧ zB nRO_lying 0 0 ∧ (∀ j, j < 41 → zA (nKRf j) 0 12 0 7) ∧ xB D (va_A ([(SO, .inr (11, oX11 PL DR TA RE FL RO HU ME TR NI)), (FL, .inr (0, oX0 FP aFL FL_parting)), ((aFL 1), .inl (cI, 8, .inl FL_next)), (PL, .inr (5, oX5 FO aPL PL_rooms PL_doors PL_things PL_draw PL_drawTold)), ((aFL 2), .inl (cI, 64, .inl FL_far)), ((aPL 4), .inl (cI, 12, .inl PL_doorFrom)), ((aPL 5), .inl (cI, 12, .inl PL_doorTo)), ((aFL 3), .inl (cI, 12, .inl FL_near)), (ME, .inr (3, oX3 FL aME ME_oldest ME_done ME_undone)), ((aME 1), .inl (cI, 32, .inl ME_now)), ((aPL 8), .inl (cI, 6, .inl PL_in)), ((aPL 9), .inl (cI, 6, .inl PL_was)), ((aPL 10), .inl (cI, 6, .inl PL_ours)), ((aME 8), .inl (cZ, 3, .inl ME_full)), ((aME 3), .inl (cG, 41, .inr (.inr (.inr (.inr ME_kept))))), (NI, .inr (4, oX4 FL aNI NI_count NI_time)), (RO, .inr (7, oX7 FL aRO RO_lying))] ++ rw41 cI KRr KRf) sz) ([(SO, .inr (11, oX11 PL DR TA RE FL RO HU ME TR NI)), (FL, .inr (0, oX0 PL aFL nFL_parting)), ((aFL 1), .inl (cI, 8, .inl nFLnext)), (PL, .inr (5, oX5 FO aPL PL_rooms PL_doors PL_things PL_draw PL_drawTold)), ((aFL 2), .inl (cI, 64, .inl nFLfar)), ((aPL 4), .inl (cI, 12, .inl PL_doorFrom)), ((aPL 5), .inl (cI, 12, .inl PL_doorTo)), ((aFL 3), .inl (cI, 12, .inl nFLnear)), (ME, .inr (3, oX3 FL aME nME_oldest nME_done nME_undone)), ((aME 1), .inl (cI, 32, .inl nMEnow)), ((aPL 8), .inl (cI, 6, .inl PL_in)), ((aPL 9), .inl (cI, 6, .inl PL_was)), ((aPL 10), .inl (cI, 6, .inl PL_ours)), ((aME 8), .inl (cZ, 3, .inl nMEfull)), ((aME 3), .inl (cG, 41, .inr (.inr (.inr (.inr ME_kept))))), (NI, .inr (4, oX4 FL aNI nNI_count NI_time)), (RO, .inr (7, oX7 FL aRO nRO_lying))] ++ rw41 cI KRr nKRf) t) (va_A ([(SO, .inr (11, oX11 PL DR TA RE FL RO HU ME TR NI)), (FL, .inr (0, oX0 FP aFL FL_parting)), ((aFL 1), .inl (cI, 8, .inl FL_next)), (PL, .inr (5, oX5 FO aPL PL_rooms PL_doors PL_things PL_draw PL_drawTold)), ((aFL 2), .inl (cI, 64, .inl FL_far)), ((aPL 4), .inl (cI, 12, .inl PL_doorFrom)), ((aPL 5), .inl (cI, 12, .inl PL_doorTo)), ((aFL 3), .inl (cI, 12, .inl FL_near)), (ME, .inr (3, oX3 FL aME ME_oldest ME_done ME_undone)), ((aME 1), .inl (cI, 32, .inl ME_now)), ((aPL 8), .inl (cI, 6, .inl PL_in)), ((aPL 9), .inl (cI, 6, .inl PL_was)), ((aPL 10), .inl (cI, 6, .inl PL_ours)), ((aME 8), .inl (cZ, 3, .inl ME_full)), ((aME 3), .inl (cG, 41, .inr (.inr (.inr (.inr ME_kept))))), (NI, .inr (4, oX4 FL aNI NI_count NI_time)), (RO, .inr (7, oX7 FL aRO RO_lying))] ++ rw41 cI KRr KRf) sz)) 0 0 (va_A ([(SO, .inr (11, oX11 PL DR TA RE FL RO HU ME TR NI)), (FL, .inr (0, oX0 FP aFL FL_parting)), ((aFL 1), .inl (cI, 8, .inl FL_next)), (PL, .inr (5, oX5 FO aPL PL_rooms PL_doors PL_things PL_draw PL_drawTold)), ((aFL 2), .inl (cI, 64, .inl FL_far)), ((aPL 4), .inl (cI, 12, .inl PL_doorFrom)), ((aPL 5), .inl (cI, 12, .inl PL_doorTo)), ((aFL 3), .inl (cI, 12, .inl FL_near)), (ME, .inr (3, oX3 FL aME ME_oldest ME_done ME_undone)), ((aME 1), .inl (cI, 32, .inl ME_now)), ((aPL 8), .inl (cI, 6, .inl PL_in)), ((aPL 9), .inl (cI, 6, .inl PL_was)), ((aPL 10), .inl (cI, 6, .inl PL_ours)), ((aME 8), .inl (cZ, 3, .inl ME_full)), ((aME 3), .inl (cG, 41, .inr (.inr (.inr (.inr ME_kept))))), (NI, .inr (4, oX4 FL aNI NI_count NI_time)), (RO, .inr (7, oX7 FL aRO RO_lying))] ++ rw41 cI KRr KRf) sz) := by
  refine Met.ofW (cc := cX11_takeUp) (maxL := 1) (ret := none) (by decide) rfl ?_
  intro p e s m args below meth c s₁ B hml hv
  obtain ⟨rfl, hsz, hP, hK, hD0, hNw⟩ := hv
  have hx := B.exec
  have hb := B.bytes
  have hr := B.returns
  have hts := atoms_spec (ws := wsX11_takeUp) B.pre
  have hown : s.vm.findClass RX11 = some m.cls := findClass_of_methodNamed B.named
  have hlocks := B.notSynchronized
  clear B
  subst hsz
  have hD := hD0.self (sz := s.heap.size)
  clear hD0 hNw
  generalize hAe : va_A ([(SO, .inr (11, oX11 PL DR TA RE FL RO HU ME TR NI)), (FL, .inr (0, oX0 FP aFL FL_parting)), ((aFL 1), .inl (cI, 8, .inl FL_next)), (PL, .inr (5, oX5 FO aPL PL_rooms PL_doors PL_things PL_draw PL_drawTold)), ((aFL 2), .inl (cI, 64, .inl FL_far)), ((aPL 4), .inl (cI, 12, .inl PL_doorFrom)), ((aPL 5), .inl (cI, 12, .inl PL_doorTo)), ((aFL 3), .inl (cI, 12, .inl FL_near)), (ME, .inr (3, oX3 FL aME ME_oldest ME_done ME_undone)), ((aME 1), .inl (cI, 32, .inl ME_now)), ((aPL 8), .inl (cI, 6, .inl PL_in)), ((aPL 9), .inl (cI, 6, .inl PL_was)), ((aPL 10), .inl (cI, 6, .inl PL_ours)), ((aME 8), .inl (cZ, 3, .inl ME_full)), ((aME 3), .inl (cG, 41, .inr (.inr (.inr (.inr ME_kept))))), (NI, .inr (4, oX4 FL aNI NI_count NI_time)), (RO, .inr (7, oX7 FL aRO RO_lying))] ++ rw41 cI KRr KRf) s.heap.size = A at hD ⊢
  have hA : ∀ q : Nat, s.heap.size ≤ q → A q := fun q h => by rw [← hAe]; exact Or.inr h
  have hS : va_S A s.heap s.heap [] := va_S.rf
  clear hAe
  obtain ⟨H, hH⟩ : ∃ H : Heap, H = s.heap := ⟨_, rfl⟩
  obtain ⟨locs, hlocs⟩ : ∃ L : List Loc, L = [] := ⟨_, rfl⟩
  replace hP : va_P D classes ([(SO, .inr (11, oX11 PL DR TA RE FL RO HU ME TR NI)), (FL, .inr (0, oX0 FP aFL FL_parting)), ((aFL 1), .inl (cI, 8, .inl FL_next)), (PL, .inr (5, oX5 FO aPL PL_rooms PL_doors PL_things PL_draw PL_drawTold)), ((aFL 2), .inl (cI, 64, .inl FL_far)), ((aPL 4), .inl (cI, 12, .inl PL_doorFrom)), ((aPL 5), .inl (cI, 12, .inl PL_doorTo)), ((aFL 3), .inl (cI, 12, .inl FL_near)), (ME, .inr (3, oX3 FL aME ME_oldest ME_done ME_undone)), ((aME 1), .inl (cI, 32, .inl ME_now)), ((aPL 8), .inl (cI, 6, .inl PL_in)), ((aPL 9), .inl (cI, 6, .inl PL_was)), ((aPL 10), .inl (cI, 6, .inl PL_ours)), ((aME 8), .inl (cZ, 3, .inl ME_full)), ((aME 3), .inl (cG, 41, .inr (.inr (.inr (.inr ME_kept))))), (NI, .inr (4, oX4 FL aNI NI_count NI_time)), (RO, .inr (7, oX7 FL aRO RO_lying))] ++ rw41 cI KRr KRf) H := by rw [hH]; exact hP
  replace hS : va_S A s.heap H locs := by rw [hH, hlocs]; exact hS
  rw [← hH, ← hlocs]
  clear hlocs hH
  have hl := lv_entry ([.ref SO]) (n := 1) (Nat.le_of_ble_eq_true rfl)
  rw [lg_entry_eq]
  generalize (lg_sl ([.ref SO]) ++ List.replicate (1 - (lg_sl ([.ref SO])).length) Slot.unset).toArray = ls at hl ⊢
  replace hl : lv_has ls 1 [(0, .ref SO)] := hl
  refine lv_aload_n hx hb dX11_takeUp_0 rfl (lv_at hl 0 rfl) ?_
  refine va_get (D := D) (ci := 11) (v := .ref FL) (C := RX11) (T := TX11) (N := 10) hx hb hts iw_X11_takeUp_X11 hown hK hP 0 rfl rfl 4 (by decide) (hts (.fieldLink RX11 40 "SoldHouse" "floor" "LSoldHouse$Floor;") (List.mem_of_getElem? (i := 1) rfl)) (fun _ h9 => h9) rfl dX11_takeUp_1 ?_
  refine lv_aload_n hx hb dX11_takeUp_4 rfl (lv_at hl 0 rfl) ?_
  refine va_get (D := D) (ci := 11) (v := .ref PL) (C := RX11) (T := TX11) (N := 10) hx hb hts iw_X11_takeUp_X11 hown hK hP 0 rfl rfl 0 (by decide) (hts (.fieldLink RX11 10 "SoldHouse" "plan" "LSoldHouse$Plan;") (List.mem_of_getElem? (i := 2) rfl)) (fun _ h9 => h9) rfl dX11_takeUp_5 ?_
  have hPc := hP.sub (ws' := [(FL, .inr (0, oX0 FP aFL FL_parting)), ((aFL 1), .inl (cI, 8, .inl FL_next)), (PL, .inr (5, oX5 FO aPL PL_rooms PL_doors PL_things PL_draw PL_drawTold)), ((aFL 2), .inl (cI, 64, .inl FL_far)), ((aPL 4), .inl (cI, 12, .inl PL_doorFrom)), ((aPL 5), .inl (cI, 12, .inl PL_doorTo)), ((aFL 3), .inl (cI, 12, .inl FL_near))]) [1, 2, 3, 4, 5, 6, 7] rfl
  have hDc := hD.sub (ws' := [(FL, .inr (0, oX0 FP aFL FL_parting)), ((aFL 1), .inl (cI, 8, .inl FL_next)), (PL, .inr (5, oX5 FO aPL PL_rooms PL_doors PL_things PL_draw PL_drawTold)), ((aFL 2), .inl (cI, 64, .inl FL_far)), ((aPL 4), .inl (cI, 12, .inl PL_doorFrom)), ((aPL 5), .inl (cI, 12, .inl PL_doorTo)), ((aFL 3), .inl (cI, 12, .inl FL_near))]) [1, 2, 3, 4, 5, 6, 7] (by decide) rfl
  have hFc := va_free (wc := [(FL, .inr (0, oX0 FP aFL FL_parting)), ((aFL 1), .inl (cI, 8, .inl FL_next)), (PL, .inr (5, oX5 FO aPL PL_rooms PL_doors PL_things PL_draw PL_drawTold)), ((aFL 2), .inl (cI, 64, .inl FL_far)), ((aPL 4), .inl (cI, 12, .inl PL_doorFrom)), ((aPL 5), .inl (cI, 12, .inl PL_doorTo)), ((aFL 3), .inl (cI, 12, .inl FL_near))]) hD hS hA [1, 2, 3, 4, 5, 6, 7] rfl
  refine va_callv (va_runV (As := [.ref PL]) (rest := []) ⟨hx, hb, hml, hown, hts⟩ (c_X0_build l D cI cB cL cZ cG FL PL FP aFL FL_parting FL_next PL_rooms aPL PL_doors PL_things FO PL_draw PL_drawTold FL_far PL_doorFrom PL_doorTo FL_near H.size b_PL_rooms b_PL_doors b_PL_things s_FL_far_0 s_PL_doorFrom_0 s_PL_doorTo_0) (cwV 1 hts gX11_takeUp_X0_build rfl rfl rfl (by decide +kernel) ⟨Nat.le_of_ble_eq_true rfl, Nat.le_of_ble_eq_true rfl⟩) ⟨xp_blind, va_recv hK hP (ci := 0) (q0 := 1) rfl rfl, fun U hU hW => xp_mk hU hW hPc hK hDc xNw_nil⟩ rfl rfl hl.1 rfl (lv_room (Nat.le_of_ble_eq_true rfl)) dX11_takeUp_8 ⟨Nat.le_of_ble_eq_true rfl, Nat.le_of_ble_eq_true rfl⟩) hS (fun q _ h => hFc q h) hFc (fun u9 t9 H1 locs ht9 hvm9 hr8 hB9 hz9 hk9 hS => ?_)
  obtain ⟨o8_nFL_parting, o8_nFLnext, o8_nFLfar, o8_nFLnear, so8_nFLfar_0, hP1, hD1⟩ := hB9
  rw [ht9] at hP1
  obtain ⟨hP, hD⟩ := va_join (wr := ([(SO, .inr (11, oX11 PL DR TA RE FL RO HU ME TR NI)), (ME, .inr (3, oX3 FL aME ME_oldest ME_done ME_undone)), ((aME 1), .inl (cI, 32, .inl ME_now)), ((aPL 8), .inl (cI, 6, .inl PL_in)), ((aPL 9), .inl (cI, 6, .inl PL_was)), ((aPL 10), .inl (cI, 6, .inl PL_ours)), ((aME 8), .inl (cZ, 3, .inl ME_full)), ((aME 3), .inl (cG, 41, .inr (.inr (.inr (.inr ME_kept))))), (NI, .inr (4, oX4 FL aNI NI_count NI_time)), (RO, .inr (7, oX7 FL aRO RO_lying))] ++ rw41 cI KRr KRf)) (w1 := [(FL, .inr (0, oX0 PL aFL o8_nFL_parting)), ((aFL 1), .inl (cI, 8, .inl o8_nFLnext)), (PL, .inr (5, oX5 FO aPL PL_rooms PL_doors PL_things PL_draw PL_drawTold)), ((aFL 2), .inl (cI, 64, .inl o8_nFLfar)), ((aPL 4), .inl (cI, 12, .inl PL_doorFrom)), ((aPL 5), .inl (cI, 12, .inl PL_doorTo)), ((aFL 3), .inl (cI, 12, .inl o8_nFLnear))]) hP hD [1, 2, 3, 4, 5, 6, 7] [0, 8, 9, 10, 11, 12, 13, 14, 15, 16, 17, 18, 19, 20, 21, 22, 23, 24, 25, 26, 27, 28, 29, 30, 31, 32, 33, 34, 35, 36, 37, 38, 39, 40, 41, 42, 43, 44, 45, 46, 47, 48, 49, 50, 51, 52, 53, 54, 55, 56, 57] rfl rfl (by decide) (by decide) hk9 hFc hP1 hD1
  clear hz9 hPc hDc hP1 hD1 hk9 hFc ht9 hvm9 u9 t9
  generalize H1 = H at hP hS ⊢
  replace hP : va_P D classes ([(SO, .inr (11, oX11 PL DR TA RE FL RO HU ME TR NI)), (FL, .inr (0, oX0 PL aFL o8_nFL_parting)), ((aFL 1), .inl (cI, 8, .inl o8_nFLnext)), (PL, .inr (5, oX5 FO aPL PL_rooms PL_doors PL_things PL_draw PL_drawTold)), ((aFL 2), .inl (cI, 64, .inl o8_nFLfar)), ((aPL 4), .inl (cI, 12, .inl PL_doorFrom)), ((aPL 5), .inl (cI, 12, .inl PL_doorTo)), ((aFL 3), .inl (cI, 12, .inl o8_nFLnear)), (ME, .inr (3, oX3 FL aME ME_oldest ME_done ME_undone)), ((aME 1), .inl (cI, 32, .inl ME_now)), ((aPL 8), .inl (cI, 6, .inl PL_in)), ((aPL 9), .inl (cI, 6, .inl PL_was)), ((aPL 10), .inl (cI, 6, .inl PL_ours)), ((aME 8), .inl (cZ, 3, .inl ME_full)), ((aME 3), .inl (cG, 41, .inr (.inr (.inr (.inr ME_kept))))), (NI, .inr (4, oX4 FL aNI NI_count NI_time)), (RO, .inr (7, oX7 FL aRO RO_lying))] ++ rw41 cI KRr KRf) H := hP.sub [0, 51, 52, 53, 54, 55, 56, 57, 1, 2, 3, 4, 5, 6, 7, 8, 9, 10, 11, 12, 13, 14, 15, 16, 17, 18, 19, 20, 21, 22, 23, 24, 25, 26, 27, 28, 29, 30, 31, 32, 33, 34, 35, 36, 37, 38, 39, 40, 41, 42, 43, 44, 45, 46, 47, 48, 49, 50] rfl
  replace hD : va_D A ([(SO, .inr (11, oX11 PL DR TA RE FL RO HU ME TR NI)), (FL, .inr (0, oX0 PL aFL o8_nFL_parting)), ((aFL 1), .inl (cI, 8, .inl o8_nFLnext)), (PL, .inr (5, oX5 FO aPL PL_rooms PL_doors PL_things PL_draw PL_drawTold)), ((aFL 2), .inl (cI, 64, .inl o8_nFLfar)), ((aPL 4), .inl (cI, 12, .inl PL_doorFrom)), ((aPL 5), .inl (cI, 12, .inl PL_doorTo)), ((aFL 3), .inl (cI, 12, .inl o8_nFLnear)), (ME, .inr (3, oX3 FL aME ME_oldest ME_done ME_undone)), ((aME 1), .inl (cI, 32, .inl ME_now)), ((aPL 8), .inl (cI, 6, .inl PL_in)), ((aPL 9), .inl (cI, 6, .inl PL_was)), ((aPL 10), .inl (cI, 6, .inl PL_ours)), ((aME 8), .inl (cZ, 3, .inl ME_full)), ((aME 3), .inl (cG, 41, .inr (.inr (.inr (.inr ME_kept))))), (NI, .inr (4, oX4 FL aNI NI_count NI_time)), (RO, .inr (7, oX7 FL aRO RO_lying))] ++ rw41 cI KRr KRf) := hD.sub [0, 51, 52, 53, 54, 55, 56, 57, 1, 2, 3, 4, 5, 6, 7, 8, 9, 10, 11, 12, 13, 14, 15, 16, 17, 18, 19, 20, 21, 22, 23, 24, 25, 26, 27, 28, 29, 30, 31, 32, 33, 34, 35, 36, 37, 38, 39, 40, 41, 42, 43, 44, 45, 46, 47, 48, 49, 50] (by decide) rfl
  refine lv_aload_n hx hb dX11_takeUp_11 rfl (lv_at hl 0 rfl) ?_
  refine va_get (D := D) (ci := 11) (v := .ref ME) (C := RX11) (T := TX11) (N := 10) hx hb hts iw_X11_takeUp_X11 hown hK hP 0 rfl rfl 7 (by decide) (hts (.fieldLink RX11 63 "SoldHouse" "memory" "LSoldHouse$Memory;") (List.mem_of_getElem? (i := 3) rfl)) (fun _ h9 => h9) rfl dX11_takeUp_12 ?_
  have hPc := hP.sub (ws' := ([(ME, .inr (3, oX3 FL aME ME_oldest ME_done ME_undone)), (FL, .inr (0, oX0 PL aFL o8_nFL_parting)), (PL, .inr (5, oX5 FO aPL PL_rooms PL_doors PL_things PL_draw PL_drawTold)), ((aME 1), .inl (cI, 32, .inl ME_now)), ((aPL 8), .inl (cI, 6, .inl PL_in)), ((aPL 9), .inl (cI, 6, .inl PL_was)), ((aPL 10), .inl (cI, 6, .inl PL_ours)), ((aME 8), .inl (cZ, 3, .inl ME_full)), ((aME 3), .inl (cG, 41, .inr (.inr (.inr (.inr ME_kept)))))] ++ rw41 cI KRr KRf)) [8, 1, 3, 9, 10, 11, 12, 13, 14, 17, 18, 19, 20, 21, 22, 23, 24, 25, 26, 27, 28, 29, 30, 31, 32, 33, 34, 35, 36, 37, 38, 39, 40, 41, 42, 43, 44, 45, 46, 47, 48, 49, 50, 51, 52, 53, 54, 55, 56, 57] rfl
  have hDc := hD.sub (ws' := ([(ME, .inr (3, oX3 FL aME ME_oldest ME_done ME_undone)), (FL, .inr (0, oX0 PL aFL o8_nFL_parting)), (PL, .inr (5, oX5 FO aPL PL_rooms PL_doors PL_things PL_draw PL_drawTold)), ((aME 1), .inl (cI, 32, .inl ME_now)), ((aPL 8), .inl (cI, 6, .inl PL_in)), ((aPL 9), .inl (cI, 6, .inl PL_was)), ((aPL 10), .inl (cI, 6, .inl PL_ours)), ((aME 8), .inl (cZ, 3, .inl ME_full)), ((aME 3), .inl (cG, 41, .inr (.inr (.inr (.inr ME_kept)))))] ++ rw41 cI KRr KRf)) [8, 1, 3, 9, 10, 11, 12, 13, 14, 17, 18, 19, 20, 21, 22, 23, 24, 25, 26, 27, 28, 29, 30, 31, 32, 33, 34, 35, 36, 37, 38, 39, 40, 41, 42, 43, 44, 45, 46, 47, 48, 49, 50, 51, 52, 53, 54, 55, 56, 57] (by decide) rfl
  have hFc := va_free (wc := ([(ME, .inr (3, oX3 FL aME ME_oldest ME_done ME_undone)), (FL, .inr (0, oX0 PL aFL o8_nFL_parting)), (PL, .inr (5, oX5 FO aPL PL_rooms PL_doors PL_things PL_draw PL_drawTold)), ((aME 1), .inl (cI, 32, .inl ME_now)), ((aPL 8), .inl (cI, 6, .inl PL_in)), ((aPL 9), .inl (cI, 6, .inl PL_was)), ((aPL 10), .inl (cI, 6, .inl PL_ours)), ((aME 8), .inl (cZ, 3, .inl ME_full)), ((aME 3), .inl (cG, 41, .inr (.inr (.inr (.inr ME_kept)))))] ++ rw41 cI KRr KRf)) hD hS hA [8, 1, 3, 9, 10, 11, 12, 13, 14, 17, 18, 19, 20, 21, 22, 23, 24, 25, 26, 27, 28, 29, 30, 31, 32, 33, 34, 35, 36, 37, 38, 39, 40, 41, 42, 43, 44, 45, 46, 47, 48, 49, 50, 51, 52, 53, 54, 55, 56, 57] rfl
  refine va_callv (va_runV (As := []) (rest := []) ⟨hx, hb, hml, hown, hts⟩ (c_X3_begin l D cI cB cL cZ cG ME FL aME ME_oldest ME_done ME_undone PL aFL o8_nFL_parting PL_rooms aPL PL_doors PL_things FO PL_draw PL_drawTold ME_now PL_in PL_was PL_ours ME_full ME_kept KRr KRf H.size b_ME_oldest b_ME_done b_ME_undone b_PL_rooms b_PL_doors b_PL_things s_ME_now_0 s_PL_in_0 s_PL_was_0 k_ME_kept w_KR) (cwV 0 hts gX11_takeUp_X3_begin rfl rfl rfl (by decide +kernel) ⟨Nat.le_of_ble_eq_true rfl, Nat.le_of_ble_eq_true rfl⟩) ⟨xp_blind, va_recv hK hP (ci := 3) (q0 := 8) rfl rfl, fun U hU hW => xp_mk hU hW hPc hK hDc xNw_nil⟩ rfl rfl hl.1 rfl (lv_room (Nat.le_of_ble_eq_true rfl)) dX11_takeUp_15 ⟨Nat.le_of_ble_eq_true rfl, Nat.le_of_ble_eq_true rfl⟩) hS (fun q _ h => hFc q h) hFc (fun u9 t9 H1 locs ht9 hvm9 hr15 hB9 hz9 hk9 hS => ?_)
  obtain ⟨o15_nME_oldest, o15_nME_done, o15_nME_undone, o15_nMEnow, o15_nMEfull, o15_nKRf, bo15_nME_oldest, bo15_nME_done, bo15_nME_undone, so15_nMEnow_0, wo15_nKRf, hP1, hD1⟩ := hB9
  rw [ht9] at hP1
  obtain ⟨hP, hD⟩ := va_join (wr := [(SO, .inr (11, oX11 PL DR TA RE FL RO HU ME TR NI)), ((aFL 1), .inl (cI, 8, .inl o8_nFLnext)), ((aFL 2), .inl (cI, 64, .inl o8_nFLfar)), ((aPL 4), .inl (cI, 12, .inl PL_doorFrom)), ((aPL 5), .inl (cI, 12, .inl PL_doorTo)), ((aFL 3), .inl (cI, 12, .inl o8_nFLnear)), (NI, .inr (4, oX4 FL aNI NI_count NI_time)), (RO, .inr (7, oX7 FL aRO RO_lying))]) (w1 := ([(ME, .inr (3, oX3 FL aME o15_nME_oldest o15_nME_done o15_nME_undone)), (FL, .inr (0, oX0 PL aFL o8_nFL_parting)), (PL, .inr (5, oX5 FO aPL PL_rooms PL_doors PL_things PL_draw PL_drawTold)), ((aME 1), .inl (cI, 32, .inl o15_nMEnow)), ((aPL 8), .inl (cI, 6, .inl PL_in)), ((aPL 9), .inl (cI, 6, .inl PL_was)), ((aPL 10), .inl (cI, 6, .inl PL_ours)), ((aME 8), .inl (cZ, 3, .inl o15_nMEfull)), ((aME 3), .inl (cG, 41, .inr (.inr (.inr (.inr ME_kept)))))] ++ rw41 cI KRr o15_nKRf)) hP hD [8, 1, 3, 9, 10, 11, 12, 13, 14, 17, 18, 19, 20, 21, 22, 23, 24, 25, 26, 27, 28, 29, 30, 31, 32, 33, 34, 35, 36, 37, 38, 39, 40, 41, 42, 43, 44, 45, 46, 47, 48, 49, 50, 51, 52, 53, 54, 55, 56, 57] [0, 2, 4, 5, 6, 7, 15, 16] rfl rfl (by decide) (by decide) hk9 hFc hP1 hD1
  clear hz9 hPc hDc hP1 hD1 hk9 hFc ht9 hvm9 u9 t9
  generalize H1 = H at hP hS ⊢
  replace hP : va_P D classes ([(SO, .inr (11, oX11 PL DR TA RE FL RO HU ME TR NI)), (FL, .inr (0, oX0 PL aFL o8_nFL_parting)), ((aFL 1), .inl (cI, 8, .inl o8_nFLnext)), (PL, .inr (5, oX5 FO aPL PL_rooms PL_doors PL_things PL_draw PL_drawTold)), ((aFL 2), .inl (cI, 64, .inl o8_nFLfar)), ((aPL 4), .inl (cI, 12, .inl PL_doorFrom)), ((aPL 5), .inl (cI, 12, .inl PL_doorTo)), ((aFL 3), .inl (cI, 12, .inl o8_nFLnear)), (ME, .inr (3, oX3 FL aME o15_nME_oldest o15_nME_done o15_nME_undone)), ((aME 1), .inl (cI, 32, .inl o15_nMEnow)), ((aPL 8), .inl (cI, 6, .inl PL_in)), ((aPL 9), .inl (cI, 6, .inl PL_was)), ((aPL 10), .inl (cI, 6, .inl PL_ours)), ((aME 8), .inl (cZ, 3, .inl o15_nMEfull)), ((aME 3), .inl (cG, 41, .inr (.inr (.inr (.inr ME_kept))))), (NI, .inr (4, oX4 FL aNI NI_count NI_time)), (RO, .inr (7, oX7 FL aRO RO_lying))] ++ rw41 cI KRr o15_nKRf) H := hP.sub [0, 9, 1, 10, 2, 3, 4, 5, 8, 11, 12, 13, 14, 15, 16, 6, 7, 17, 18, 19, 20, 21, 22, 23, 24, 25, 26, 27, 28, 29, 30, 31, 32, 33, 34, 35, 36, 37, 38, 39, 40, 41, 42, 43, 44, 45, 46, 47, 48, 49, 50, 51, 52, 53, 54, 55, 56, 57] rfl
  replace hD : va_D A ([(SO, .inr (11, oX11 PL DR TA RE FL RO HU ME TR NI)), (FL, .inr (0, oX0 PL aFL o8_nFL_parting)), ((aFL 1), .inl (cI, 8, .inl o8_nFLnext)), (PL, .inr (5, oX5 FO aPL PL_rooms PL_doors PL_things PL_draw PL_drawTold)), ((aFL 2), .inl (cI, 64, .inl o8_nFLfar)), ((aPL 4), .inl (cI, 12, .inl PL_doorFrom)), ((aPL 5), .inl (cI, 12, .inl PL_doorTo)), ((aFL 3), .inl (cI, 12, .inl o8_nFLnear)), (ME, .inr (3, oX3 FL aME o15_nME_oldest o15_nME_done o15_nME_undone)), ((aME 1), .inl (cI, 32, .inl o15_nMEnow)), ((aPL 8), .inl (cI, 6, .inl PL_in)), ((aPL 9), .inl (cI, 6, .inl PL_was)), ((aPL 10), .inl (cI, 6, .inl PL_ours)), ((aME 8), .inl (cZ, 3, .inl o15_nMEfull)), ((aME 3), .inl (cG, 41, .inr (.inr (.inr (.inr ME_kept))))), (NI, .inr (4, oX4 FL aNI NI_count NI_time)), (RO, .inr (7, oX7 FL aRO RO_lying))] ++ rw41 cI KRr o15_nKRf) := hD.sub [0, 9, 1, 10, 2, 3, 4, 5, 8, 11, 12, 13, 14, 15, 16, 6, 7, 17, 18, 19, 20, 21, 22, 23, 24, 25, 26, 27, 28, 29, 30, 31, 32, 33, 34, 35, 36, 37, 38, 39, 40, 41, 42, 43, 44, 45, 46, 47, 48, 49, 50, 51, 52, 53, 54, 55, 56, 57] (by decide) rfl
  refine lv_aload_n hx hb dX11_takeUp_18 rfl (lv_at hl 0 rfl) ?_
  refine va_get (D := D) (ci := 11) (v := .ref NI) (C := RX11) (T := TX11) (N := 10) hx hb hts iw_X11_takeUp_X11 hown hK hP 0 rfl rfl 9 (by decide) (hts (.fieldLink RX11 79 "SoldHouse" "night" "LSoldHouse$Night;") (List.mem_of_getElem? (i := 4) rfl)) (fun _ h9 => h9) rfl dX11_takeUp_19 ?_
  refine lv_iconst (v := 0) hx hb dX11_takeUp_22 (by decide) ?_
  refine va_put (D := D) (ci := 4) (v := .int 0) (ty := tyX4 1) (C := RX4) (T := TX4) (N := 10) hx hb hts iw_X11_takeUp_X4 tyX4 tyX4_ok nmX4 hown hK hP hD hS 15 rfl rfl 1 (by decide) (hts (.fieldLink RX11 318 "SoldHouse$Night" "count" "I") (List.mem_of_getElem? (i := 5) rfl)) (fun _ h9 => h9) rfl (by decide +kernel) rfl rfl (Nat.le_of_ble_eq_true rfl) dX11_takeUp_23 (fun H locs hP hD hS => ?_)
  replace hP : va_P D classes ([(SO, .inr (11, oX11 PL DR TA RE FL RO HU ME TR NI)), (FL, .inr (0, oX0 PL aFL o8_nFL_parting)), ((aFL 1), .inl (cI, 8, .inl o8_nFLnext)), (PL, .inr (5, oX5 FO aPL PL_rooms PL_doors PL_things PL_draw PL_drawTold)), ((aFL 2), .inl (cI, 64, .inl o8_nFLfar)), ((aPL 4), .inl (cI, 12, .inl PL_doorFrom)), ((aPL 5), .inl (cI, 12, .inl PL_doorTo)), ((aFL 3), .inl (cI, 12, .inl o8_nFLnear)), (ME, .inr (3, oX3 FL aME o15_nME_oldest o15_nME_done o15_nME_undone)), ((aME 1), .inl (cI, 32, .inl o15_nMEnow)), ((aPL 8), .inl (cI, 6, .inl PL_in)), ((aPL 9), .inl (cI, 6, .inl PL_was)), ((aPL 10), .inl (cI, 6, .inl PL_ours)), ((aME 8), .inl (cZ, 3, .inl o15_nMEfull)), ((aME 3), .inl (cG, 41, .inr (.inr (.inr (.inr ME_kept))))), (NI, .inr (4, oX4 FL aNI 0 NI_time)), (RO, .inr (7, oX7 FL aRO RO_lying))] ++ rw41 cI KRr o15_nKRf) H := hP
  replace hD : va_D A ([(SO, .inr (11, oX11 PL DR TA RE FL RO HU ME TR NI)), (FL, .inr (0, oX0 PL aFL o8_nFL_parting)), ((aFL 1), .inl (cI, 8, .inl o8_nFLnext)), (PL, .inr (5, oX5 FO aPL PL_rooms PL_doors PL_things PL_draw PL_drawTold)), ((aFL 2), .inl (cI, 64, .inl o8_nFLfar)), ((aPL 4), .inl (cI, 12, .inl PL_doorFrom)), ((aPL 5), .inl (cI, 12, .inl PL_doorTo)), ((aFL 3), .inl (cI, 12, .inl o8_nFLnear)), (ME, .inr (3, oX3 FL aME o15_nME_oldest o15_nME_done o15_nME_undone)), ((aME 1), .inl (cI, 32, .inl o15_nMEnow)), ((aPL 8), .inl (cI, 6, .inl PL_in)), ((aPL 9), .inl (cI, 6, .inl PL_was)), ((aPL 10), .inl (cI, 6, .inl PL_ours)), ((aME 8), .inl (cZ, 3, .inl o15_nMEfull)), ((aME 3), .inl (cG, 41, .inr (.inr (.inr (.inr ME_kept))))), (NI, .inr (4, oX4 FL aNI 0 NI_time)), (RO, .inr (7, oX7 FL aRO RO_lying))] ++ rw41 cI KRr o15_nKRf) := hD
  refine lv_aload_n hx hb dX11_takeUp_26 rfl (lv_at hl 0 rfl) ?_
  refine va_get (D := D) (ci := 11) (v := .ref RO) (C := RX11) (T := TX11) (N := 10) hx hb hts iw_X11_takeUp_X11 hown hK hP 0 rfl rfl 5 (by decide) (hts (.fieldLink RX11 49 "SoldHouse" "routes" "LSoldHouse$Routes;") (List.mem_of_getElem? (i := 6) rfl)) (fun _ h9 => h9) rfl dX11_takeUp_27 ?_
  refine lv_iconst (v := 0) hx hb dX11_takeUp_30 (by decide) ?_
  refine va_put (D := D) (ci := 7) (v := .int 0) (ty := tyX7 2) (C := RX7) (T := TX7) (N := 5) hx hb hts iw_X11_takeUp_X7 tyX7 tyX7_ok nmX7 hown hK hP hD hS 16 rfl rfl 2 (by decide) (hts (.fieldLink RX11 187 "SoldHouse$Routes" "lying" "I") (List.mem_of_getElem? (i := 7) rfl)) (fun _ h9 => h9) rfl (by decide +kernel) rfl rfl (Nat.le_of_ble_eq_true rfl) dX11_takeUp_31 (fun H locs hP hD hS => ?_)
  replace hP : va_P D classes ([(SO, .inr (11, oX11 PL DR TA RE FL RO HU ME TR NI)), (FL, .inr (0, oX0 PL aFL o8_nFL_parting)), ((aFL 1), .inl (cI, 8, .inl o8_nFLnext)), (PL, .inr (5, oX5 FO aPL PL_rooms PL_doors PL_things PL_draw PL_drawTold)), ((aFL 2), .inl (cI, 64, .inl o8_nFLfar)), ((aPL 4), .inl (cI, 12, .inl PL_doorFrom)), ((aPL 5), .inl (cI, 12, .inl PL_doorTo)), ((aFL 3), .inl (cI, 12, .inl o8_nFLnear)), (ME, .inr (3, oX3 FL aME o15_nME_oldest o15_nME_done o15_nME_undone)), ((aME 1), .inl (cI, 32, .inl o15_nMEnow)), ((aPL 8), .inl (cI, 6, .inl PL_in)), ((aPL 9), .inl (cI, 6, .inl PL_was)), ((aPL 10), .inl (cI, 6, .inl PL_ours)), ((aME 8), .inl (cZ, 3, .inl o15_nMEfull)), ((aME 3), .inl (cG, 41, .inr (.inr (.inr (.inr ME_kept))))), (NI, .inr (4, oX4 FL aNI 0 NI_time)), (RO, .inr (7, oX7 FL aRO 0))] ++ rw41 cI KRr o15_nKRf) H := hP
  replace hD : va_D A ([(SO, .inr (11, oX11 PL DR TA RE FL RO HU ME TR NI)), (FL, .inr (0, oX0 PL aFL o8_nFL_parting)), ((aFL 1), .inl (cI, 8, .inl o8_nFLnext)), (PL, .inr (5, oX5 FO aPL PL_rooms PL_doors PL_things PL_draw PL_drawTold)), ((aFL 2), .inl (cI, 64, .inl o8_nFLfar)), ((aPL 4), .inl (cI, 12, .inl PL_doorFrom)), ((aPL 5), .inl (cI, 12, .inl PL_doorTo)), ((aFL 3), .inl (cI, 12, .inl o8_nFLnear)), (ME, .inr (3, oX3 FL aME o15_nME_oldest o15_nME_done o15_nME_undone)), ((aME 1), .inl (cI, 32, .inl o15_nMEnow)), ((aPL 8), .inl (cI, 6, .inl PL_in)), ((aPL 9), .inl (cI, 6, .inl PL_was)), ((aPL 10), .inl (cI, 6, .inl PL_ours)), ((aME 8), .inl (cZ, 3, .inl o15_nMEfull)), ((aME 3), .inl (cG, 41, .inr (.inr (.inr (.inr ME_kept))))), (NI, .inr (4, oX4 FL aNI 0 NI_time)), (RO, .inr (7, oX7 FL aRO 0))] ++ rw41 cI KRr o15_nKRf) := hD
  exact W.vret hx hb hr (fun t ht hW => ⟨⟨(), rfl, trivial, ⟨o8_nFL_parting, o8_nFLnext, o8_nFLfar, o8_nFLnear, o15_nME_oldest, o15_nME_done, o15_nME_undone, o15_nMEnow, o15_nMEfull, 0, 0, o15_nKRf, so8_nFLfar_0, bo15_nME_oldest, bo15_nME_done, bo15_nME_undone, so15_nMEnow_0, (show zB 0 0 0 from ⟨by decide, by decide⟩), (show zB 0 0 0 from ⟨by decide, by decide⟩), wo15_nKRf, by rw [ht]; exact hP, hD⟩⟩, hS.F ht⟩) hS.2.2 dX11_takeUp_34
set_option maxHeartbeats 4000000 in
set_option maxRecDepth 100000 in
theorem c_X11_feed (l : Launch) (D : va_G) (cI : ClassId) (cB : ClassId) (cL : ClassId) (cZ : ClassId) (cG : ClassId) (SO : Nat) (x0 : Int32) (x1 : Int32) (x2 : Int32) (x3 : Int32) (x4 : Int32) (PL : Nat) (DR : Nat) (TA : Nat) (RE : Nat) (FL : Nat) (RO : Nat) (HU : Nat) (ME : Nat) (TR : Nat) (NI : Nat) (aTA : Nat → Nat) (TA_size : Int32) (TA_bytes : Nat → Int32) (sz : Nat) (b_TA_size : zB TA_size 0 1600) : Met l yX11_feed wsX11_feed ({ frames := 1, cells := 0, slots := 0, locals := 22 }) (xp D [(cI, .int), (cB, .byte), (cL, .long), (cZ, .boolean), (cG, .array .int)] [(SO, .inr (11, oX11 PL DR TA RE FL RO HU ME TR NI)), (TA, .inr (8, oX8 aTA TA_size)), ((aTA 0), .inl (cB, 1600, .inl TA_bytes))] sz [] [.ref SO, .int x0, .int x1, .int x2, .int x3, .int x4]) (va_Qi (fun (r : Int32) (_ : Unit) => zB r (-1) 1600) (fun (_ : Unit) (t : State) => ∃ (nTA_size : Int32), ∃ (nTAbytes : Nat → Int32), zB nTA_size 0 1600 ∧ xB D (va_A [(SO, .inr (11, oX11 PL DR TA RE FL RO HU ME TR NI)), (TA, .inr (8, oX8 aTA TA_size)), ((aTA 0), .inl (cB, 1600, .inl TA_bytes))] sz) [(SO, .inr (11, oX11 PL DR TA RE FL RO HU ME TR NI)), (TA, .inr (8, oX8 aTA nTA_size)), ((aTA 0), .inl (cB, 1600, .inl nTAbytes))] t) (va_A [(SO, .inr (11, oX11 PL DR TA RE FL RO HU ME TR NI)), (TA, .inr (8, oX8 aTA TA_size)), ((aTA 0), .inl (cB, 1600, .inl TA_bytes))] sz)) 0 0 (va_A [(SO, .inr (11, oX11 PL DR TA RE FL RO HU ME TR NI)), (TA, .inr (8, oX8 aTA TA_size)), ((aTA 0), .inl (cB, 1600, .inl TA_bytes))] sz) := by
  refine Met.ofW (cc := cX11_feed) (maxL := 6) (ret := (some .int)) (by decide) rfl ?_
  intro p e s m args below meth c s₁ B hml hv
  obtain ⟨rfl, hsz, hP, hK, hD0, hNw⟩ := hv
  have hx := B.exec
  have hb := B.bytes
  have hr := B.returns
  have hts := atoms_spec (ws := wsX11_feed) B.pre
  have hown : s.vm.findClass RX11 = some m.cls := findClass_of_methodNamed B.named
  have hlocks := B.notSynchronized
  clear B
  subst hsz
  have hD := hD0.self (sz := s.heap.size)
  clear hD0 hNw
  generalize hAe : va_A [(SO, .inr (11, oX11 PL DR TA RE FL RO HU ME TR NI)), (TA, .inr (8, oX8 aTA TA_size)), ((aTA 0), .inl (cB, 1600, .inl TA_bytes))] s.heap.size = A at hD ⊢
  have hA : ∀ q : Nat, s.heap.size ≤ q → A q := fun q h => by rw [← hAe]; exact Or.inr h
  have hS : va_S A s.heap s.heap [] := va_S.rf
  clear hAe
  obtain ⟨H, hH⟩ : ∃ H : Heap, H = s.heap := ⟨_, rfl⟩
  obtain ⟨locs, hlocs⟩ : ∃ L : List Loc, L = [] := ⟨_, rfl⟩
  replace hP : va_P D classes [(SO, .inr (11, oX11 PL DR TA RE FL RO HU ME TR NI)), (TA, .inr (8, oX8 aTA TA_size)), ((aTA 0), .inl (cB, 1600, .inl TA_bytes))] H := by rw [hH]; exact hP
  replace hS : va_S A s.heap H locs := by rw [hH, hlocs]; exact hS
  rw [← hH, ← hlocs]
  clear hlocs hH
  have hl := lv_entry ([.ref SO, .int x0, .int x1, .int x2, .int x3, .int x4]) (n := 6) (Nat.le_of_ble_eq_true rfl)
  rw [lg_entry_eq]
  generalize (lg_sl ([.ref SO, .int x0, .int x1, .int x2, .int x3, .int x4]) ++ List.replicate (6 - (lg_sl ([.ref SO, .int x0, .int x1, .int x2, .int x3, .int x4])).length) Slot.unset).toArray = ls at hl ⊢
  replace hl : lv_has ls 6 [(0, .ref SO), (1, .int x0), (2, .int x1), (3, .int x2), (4, .int x3), (5, .int x4)] := hl
  refine lv_aload_n hx hb dX11_feed_0 rfl (lv_at hl 0 rfl) ?_
  refine va_get (D := D) (ci := 11) (v := .ref TA) (C := RX11) (T := TX11) (N := 10) hx hb hts iw_X11_feed_X11 hown hK hP 0 rfl rfl 2 (by decide) (hts (.fieldLink RX11 22 "SoldHouse" "tape" "LSoldHouse$Tape;") (List.mem_of_getElem? (i := 1) rfl)) (fun _ h9 => h9) rfl dX11_feed_1 ?_
  refine va_get (D := D) (ci := 8) (v := .int TA_size) (C := RX8) (T := TX8) (N := 2) hx hb hts iw_X11_feed_X8 hown hK hP 1 rfl rfl 1 (by decide) (hts (.fieldLink RX11 86 "SoldHouse$Tape" "size" "I") (List.mem_of_getElem? (i := 2) rfl)) (fun _ h9 => h9) rfl dX11_feed_4 ?_
  refine lv_sipush (v := 1580) hx hb dX11_feed_7 (by decide) ?_
  refine lv_icmp_le (tgt := 15) hx hb dX11_feed_10 (by decide) (fun c10 => ?_) (fun c10 => ?_)
  · have bx10t_TA_size : zB TA_size 0 1580 := zB_leu (ze c10) b_TA_size (show zB 1580 1580 1580 from ⟨by decide, by decide⟩) (by decide)
    refine lv_aload_n hx hb dX11_feed_15 rfl (lv_at hl 0 rfl) ?_
    refine va_get (D := D) (ci := 11) (v := .ref TA) (C := RX11) (T := TX11) (N := 10) hx hb hts iw_X11_feed_X11 hown hK hP 0 rfl rfl 2 (by decide) (hts (.fieldLink RX11 22 "SoldHouse" "tape" "LSoldHouse$Tape;") (List.mem_of_getElem? (i := 1) rfl)) (fun _ h9 => h9) rfl dX11_feed_16 ?_
    refine lv_iload_n hx hb dX11_feed_19 rfl (lv_at hl 1 rfl) ?_
    have hPc := hP.sub (ws' := [(TA, .inr (8, oX8 aTA TA_size)), ((aTA 0), .inl (cB, 1600, .inl TA_bytes))]) [1, 2] rfl
    have hDc := hD.sub (ws' := [(TA, .inr (8, oX8 aTA TA_size)), ((aTA 0), .inl (cB, 1600, .inl TA_bytes))]) [1, 2] (by decide) rfl
    have hFc := va_free (wc := [(TA, .inr (8, oX8 aTA TA_size)), ((aTA 0), .inl (cB, 1600, .inl TA_bytes))]) hD hS hA [1, 2] rfl
    refine va_callv (va_runV (As := [.int x0]) (rest := []) ⟨hx, hb, hml, hown, hts⟩ (c_X8_put l D cI cB cL cZ cG TA x0 aTA TA_size TA_bytes H.size (zB_w bx10t_TA_size (by decide) (by decide))) (cwV 1 hts gX11_feed_X8_put rfl rfl rfl (by decide +kernel) ⟨Nat.le_of_ble_eq_true rfl, Nat.le_of_ble_eq_true rfl⟩) ⟨xp_blind, va_recv hK hP (ci := 8) (q0 := 1) rfl rfl, fun U hU hW => xp_mk hU hW hPc hK hDc xNw_nil⟩ rfl rfl hl.1 rfl (lv_room (Nat.le_of_ble_eq_true rfl)) dX11_feed_20 ⟨Nat.le_of_ble_eq_true rfl, Nat.le_of_ble_eq_true rfl⟩) hS (fun q _ h => hFc q h) hFc (fun u9 t9 H1 locs ht9 hvm9 hr20 hB9 hz9 hk9 hS => ?_)
    obtain ⟨o20_nTA_size, o20_nTAbytes, bo20_nTA_size, hP1, hD1⟩ := hB9
    rw [ht9] at hP1
    obtain ⟨hP, hD⟩ := va_join (wr := [(SO, .inr (11, oX11 PL DR TA RE FL RO HU ME TR NI))]) (w1 := [(TA, .inr (8, oX8 aTA o20_nTA_size)), ((aTA 0), .inl (cB, 1600, .inl o20_nTAbytes))]) hP hD [1, 2] [0] rfl rfl (by decide) (by decide) hk9 hFc hP1 hD1
    clear hz9 hPc hDc hP1 hD1 hk9 hFc ht9 hvm9 u9 t9
    generalize H1 = H at hP hS ⊢
    replace hP : va_P D classes [(SO, .inr (11, oX11 PL DR TA RE FL RO HU ME TR NI)), (TA, .inr (8, oX8 aTA o20_nTA_size)), ((aTA 0), .inl (cB, 1600, .inl o20_nTAbytes))] H := hP
    replace hD : va_D A [(SO, .inr (11, oX11 PL DR TA RE FL RO HU ME TR NI)), (TA, .inr (8, oX8 aTA o20_nTA_size)), ((aTA 0), .inl (cB, 1600, .inl o20_nTAbytes))] := hD
    refine lv_aload_n hx hb dX11_feed_23 rfl (lv_at hl 0 rfl) ?_
    refine va_get (D := D) (ci := 11) (v := .ref TA) (C := RX11) (T := TX11) (N := 10) hx hb hts iw_X11_feed_X11 hown hK hP 0 rfl rfl 2 (by decide) (hts (.fieldLink RX11 22 "SoldHouse" "tape" "LSoldHouse$Tape;") (List.mem_of_getElem? (i := 1) rfl)) (fun _ h9 => h9) rfl dX11_feed_24 ?_
    refine lv_iload_n hx hb dX11_feed_27 rfl (lv_at hl 2 rfl) ?_
    have hPc := hP.sub (ws' := [(TA, .inr (8, oX8 aTA o20_nTA_size)), ((aTA 0), .inl (cB, 1600, .inl o20_nTAbytes))]) [1, 2] rfl
    have hDc := hD.sub (ws' := [(TA, .inr (8, oX8 aTA o20_nTA_size)), ((aTA 0), .inl (cB, 1600, .inl o20_nTAbytes))]) [1, 2] (by decide) rfl
    have hFc := va_free (wc := [(TA, .inr (8, oX8 aTA o20_nTA_size)), ((aTA 0), .inl (cB, 1600, .inl o20_nTAbytes))]) hD hS hA [1, 2] rfl
    refine va_callv (va_runV (As := [.int x1]) (rest := []) ⟨hx, hb, hml, hown, hts⟩ (c_X8_put l D cI cB cL cZ cG TA x1 aTA o20_nTA_size o20_nTAbytes H.size bo20_nTA_size) (cwV 1 hts gX11_feed_X8_put rfl rfl rfl (by decide +kernel) ⟨Nat.le_of_ble_eq_true rfl, Nat.le_of_ble_eq_true rfl⟩) ⟨xp_blind, va_recv hK hP (ci := 8) (q0 := 1) rfl rfl, fun U hU hW => xp_mk hU hW hPc hK hDc xNw_nil⟩ rfl rfl hl.1 rfl (lv_room (Nat.le_of_ble_eq_true rfl)) dX11_feed_28 ⟨Nat.le_of_ble_eq_true rfl, Nat.le_of_ble_eq_true rfl⟩) hS (fun q _ h => hFc q h) hFc (fun u9 t9 H1 locs ht9 hvm9 hr28 hB9 hz9 hk9 hS => ?_)
    obtain ⟨o28_nTA_size, o28_nTAbytes, bo28_nTA_size, hP1, hD1⟩ := hB9
    rw [ht9] at hP1
    obtain ⟨hP, hD⟩ := va_join (wr := [(SO, .inr (11, oX11 PL DR TA RE FL RO HU ME TR NI))]) (w1 := [(TA, .inr (8, oX8 aTA o28_nTA_size)), ((aTA 0), .inl (cB, 1600, .inl o28_nTAbytes))]) hP hD [1, 2] [0] rfl rfl (by decide) (by decide) hk9 hFc hP1 hD1
    clear hz9 hPc hDc hP1 hD1 hk9 hFc ht9 hvm9 u9 t9
    generalize H1 = H at hP hS ⊢
    replace hP : va_P D classes [(SO, .inr (11, oX11 PL DR TA RE FL RO HU ME TR NI)), (TA, .inr (8, oX8 aTA o28_nTA_size)), ((aTA 0), .inl (cB, 1600, .inl o28_nTAbytes))] H := hP
    replace hD : va_D A [(SO, .inr (11, oX11 PL DR TA RE FL RO HU ME TR NI)), (TA, .inr (8, oX8 aTA o28_nTA_size)), ((aTA 0), .inl (cB, 1600, .inl o28_nTAbytes))] := hD
    refine lv_aload_n hx hb dX11_feed_31 rfl (lv_at hl 0 rfl) ?_
    refine va_get (D := D) (ci := 11) (v := .ref TA) (C := RX11) (T := TX11) (N := 10) hx hb hts iw_X11_feed_X11 hown hK hP 0 rfl rfl 2 (by decide) (hts (.fieldLink RX11 22 "SoldHouse" "tape" "LSoldHouse$Tape;") (List.mem_of_getElem? (i := 1) rfl)) (fun _ h9 => h9) rfl dX11_feed_32 ?_
    refine lv_iload_n hx hb dX11_feed_35 rfl (lv_at hl 3 rfl) ?_
    have hPc := hP.sub (ws' := [(TA, .inr (8, oX8 aTA o28_nTA_size)), ((aTA 0), .inl (cB, 1600, .inl o28_nTAbytes))]) [1, 2] rfl
    have hDc := hD.sub (ws' := [(TA, .inr (8, oX8 aTA o28_nTA_size)), ((aTA 0), .inl (cB, 1600, .inl o28_nTAbytes))]) [1, 2] (by decide) rfl
    have hFc := va_free (wc := [(TA, .inr (8, oX8 aTA o28_nTA_size)), ((aTA 0), .inl (cB, 1600, .inl o28_nTAbytes))]) hD hS hA [1, 2] rfl
    refine va_callv (va_runV (As := [.int x2]) (rest := []) ⟨hx, hb, hml, hown, hts⟩ (c_X8_put l D cI cB cL cZ cG TA x2 aTA o28_nTA_size o28_nTAbytes H.size bo28_nTA_size) (cwV 1 hts gX11_feed_X8_put rfl rfl rfl (by decide +kernel) ⟨Nat.le_of_ble_eq_true rfl, Nat.le_of_ble_eq_true rfl⟩) ⟨xp_blind, va_recv hK hP (ci := 8) (q0 := 1) rfl rfl, fun U hU hW => xp_mk hU hW hPc hK hDc xNw_nil⟩ rfl rfl hl.1 rfl (lv_room (Nat.le_of_ble_eq_true rfl)) dX11_feed_36 ⟨Nat.le_of_ble_eq_true rfl, Nat.le_of_ble_eq_true rfl⟩) hS (fun q _ h => hFc q h) hFc (fun u9 t9 H1 locs ht9 hvm9 hr36 hB9 hz9 hk9 hS => ?_)
    obtain ⟨o36_nTA_size, o36_nTAbytes, bo36_nTA_size, hP1, hD1⟩ := hB9
    rw [ht9] at hP1
    obtain ⟨hP, hD⟩ := va_join (wr := [(SO, .inr (11, oX11 PL DR TA RE FL RO HU ME TR NI))]) (w1 := [(TA, .inr (8, oX8 aTA o36_nTA_size)), ((aTA 0), .inl (cB, 1600, .inl o36_nTAbytes))]) hP hD [1, 2] [0] rfl rfl (by decide) (by decide) hk9 hFc hP1 hD1
    clear hz9 hPc hDc hP1 hD1 hk9 hFc ht9 hvm9 u9 t9
    generalize H1 = H at hP hS ⊢
    replace hP : va_P D classes [(SO, .inr (11, oX11 PL DR TA RE FL RO HU ME TR NI)), (TA, .inr (8, oX8 aTA o36_nTA_size)), ((aTA 0), .inl (cB, 1600, .inl o36_nTAbytes))] H := hP
    replace hD : va_D A [(SO, .inr (11, oX11 PL DR TA RE FL RO HU ME TR NI)), (TA, .inr (8, oX8 aTA o36_nTA_size)), ((aTA 0), .inl (cB, 1600, .inl o36_nTAbytes))] := hD
    refine lv_aload_n hx hb dX11_feed_39 rfl (lv_at hl 0 rfl) ?_
    refine va_get (D := D) (ci := 11) (v := .ref TA) (C := RX11) (T := TX11) (N := 10) hx hb hts iw_X11_feed_X11 hown hK hP 0 rfl rfl 2 (by decide) (hts (.fieldLink RX11 22 "SoldHouse" "tape" "LSoldHouse$Tape;") (List.mem_of_getElem? (i := 1) rfl)) (fun _ h9 => h9) rfl dX11_feed_40 ?_
    refine lv_iload hx hb dX11_feed_43 (lv_at hl 4 rfl) ?_
    have hPc := hP.sub (ws' := [(TA, .inr (8, oX8 aTA o36_nTA_size)), ((aTA 0), .inl (cB, 1600, .inl o36_nTAbytes))]) [1, 2] rfl
    have hDc := hD.sub (ws' := [(TA, .inr (8, oX8 aTA o36_nTA_size)), ((aTA 0), .inl (cB, 1600, .inl o36_nTAbytes))]) [1, 2] (by decide) rfl
    have hFc := va_free (wc := [(TA, .inr (8, oX8 aTA o36_nTA_size)), ((aTA 0), .inl (cB, 1600, .inl o36_nTAbytes))]) hD hS hA [1, 2] rfl
    refine va_callv (va_runV (As := [.int x3]) (rest := []) ⟨hx, hb, hml, hown, hts⟩ (c_X8_put l D cI cB cL cZ cG TA x3 aTA o36_nTA_size o36_nTAbytes H.size bo36_nTA_size) (cwV 1 hts gX11_feed_X8_put rfl rfl rfl (by decide +kernel) ⟨Nat.le_of_ble_eq_true rfl, Nat.le_of_ble_eq_true rfl⟩) ⟨xp_blind, va_recv hK hP (ci := 8) (q0 := 1) rfl rfl, fun U hU hW => xp_mk hU hW hPc hK hDc xNw_nil⟩ rfl rfl hl.1 rfl (lv_room (Nat.le_of_ble_eq_true rfl)) dX11_feed_45 ⟨Nat.le_of_ble_eq_true rfl, Nat.le_of_ble_eq_true rfl⟩) hS (fun q _ h => hFc q h) hFc (fun u9 t9 H1 locs ht9 hvm9 hr45 hB9 hz9 hk9 hS => ?_)
    obtain ⟨o45_nTA_size, o45_nTAbytes, bo45_nTA_size, hP1, hD1⟩ := hB9
    rw [ht9] at hP1
    obtain ⟨hP, hD⟩ := va_join (wr := [(SO, .inr (11, oX11 PL DR TA RE FL RO HU ME TR NI))]) (w1 := [(TA, .inr (8, oX8 aTA o45_nTA_size)), ((aTA 0), .inl (cB, 1600, .inl o45_nTAbytes))]) hP hD [1, 2] [0] rfl rfl (by decide) (by decide) hk9 hFc hP1 hD1
    clear hz9 hPc hDc hP1 hD1 hk9 hFc ht9 hvm9 u9 t9
    generalize H1 = H at hP hS ⊢
    replace hP : va_P D classes [(SO, .inr (11, oX11 PL DR TA RE FL RO HU ME TR NI)), (TA, .inr (8, oX8 aTA o45_nTA_size)), ((aTA 0), .inl (cB, 1600, .inl o45_nTAbytes))] H := hP
    replace hD : va_D A [(SO, .inr (11, oX11 PL DR TA RE FL RO HU ME TR NI)), (TA, .inr (8, oX8 aTA o45_nTA_size)), ((aTA 0), .inl (cB, 1600, .inl o45_nTAbytes))] := hD
    refine lv_aload_n hx hb dX11_feed_48 rfl (lv_at hl 0 rfl) ?_
    refine va_get (D := D) (ci := 11) (v := .ref TA) (C := RX11) (T := TX11) (N := 10) hx hb hts iw_X11_feed_X11 hown hK hP 0 rfl rfl 2 (by decide) (hts (.fieldLink RX11 22 "SoldHouse" "tape" "LSoldHouse$Tape;") (List.mem_of_getElem? (i := 1) rfl)) (fun _ h9 => h9) rfl dX11_feed_49 ?_
    refine lv_iload hx hb dX11_feed_52 (lv_at hl 5 rfl) ?_
    have hPc := hP.sub (ws' := [(TA, .inr (8, oX8 aTA o45_nTA_size)), ((aTA 0), .inl (cB, 1600, .inl o45_nTAbytes))]) [1, 2] rfl
    have hDc := hD.sub (ws' := [(TA, .inr (8, oX8 aTA o45_nTA_size)), ((aTA 0), .inl (cB, 1600, .inl o45_nTAbytes))]) [1, 2] (by decide) rfl
    have hFc := va_free (wc := [(TA, .inr (8, oX8 aTA o45_nTA_size)), ((aTA 0), .inl (cB, 1600, .inl o45_nTAbytes))]) hD hS hA [1, 2] rfl
    refine va_callv (va_runV (As := [.int x4]) (rest := []) ⟨hx, hb, hml, hown, hts⟩ (c_X8_put l D cI cB cL cZ cG TA x4 aTA o45_nTA_size o45_nTAbytes H.size bo45_nTA_size) (cwV 1 hts gX11_feed_X8_put rfl rfl rfl (by decide +kernel) ⟨Nat.le_of_ble_eq_true rfl, Nat.le_of_ble_eq_true rfl⟩) ⟨xp_blind, va_recv hK hP (ci := 8) (q0 := 1) rfl rfl, fun U hU hW => xp_mk hU hW hPc hK hDc xNw_nil⟩ rfl rfl hl.1 rfl (lv_room (Nat.le_of_ble_eq_true rfl)) dX11_feed_54 ⟨Nat.le_of_ble_eq_true rfl, Nat.le_of_ble_eq_true rfl⟩) hS (fun q _ h => hFc q h) hFc (fun u9 t9 H1 locs ht9 hvm9 hr54 hB9 hz9 hk9 hS => ?_)
    obtain ⟨o54_nTA_size, o54_nTAbytes, bo54_nTA_size, hP1, hD1⟩ := hB9
    rw [ht9] at hP1
    obtain ⟨hP, hD⟩ := va_join (wr := [(SO, .inr (11, oX11 PL DR TA RE FL RO HU ME TR NI))]) (w1 := [(TA, .inr (8, oX8 aTA o54_nTA_size)), ((aTA 0), .inl (cB, 1600, .inl o54_nTAbytes))]) hP hD [1, 2] [0] rfl rfl (by decide) (by decide) hk9 hFc hP1 hD1
    clear hz9 hPc hDc hP1 hD1 hk9 hFc ht9 hvm9 u9 t9
    generalize H1 = H at hP hS ⊢
    replace hP : va_P D classes [(SO, .inr (11, oX11 PL DR TA RE FL RO HU ME TR NI)), (TA, .inr (8, oX8 aTA o54_nTA_size)), ((aTA 0), .inl (cB, 1600, .inl o54_nTAbytes))] H := hP
    replace hD : va_D A [(SO, .inr (11, oX11 PL DR TA RE FL RO HU ME TR NI)), (TA, .inr (8, oX8 aTA o54_nTA_size)), ((aTA 0), .inl (cB, 1600, .inl o54_nTAbytes))] := hD
    refine lv_aload_n hx hb dX11_feed_57 rfl (lv_at hl 0 rfl) ?_
    refine va_get (D := D) (ci := 11) (v := .ref TA) (C := RX11) (T := TX11) (N := 10) hx hb hts iw_X11_feed_X11 hown hK hP 0 rfl rfl 2 (by decide) (hts (.fieldLink RX11 22 "SoldHouse" "tape" "LSoldHouse$Tape;") (List.mem_of_getElem? (i := 1) rfl)) (fun _ h9 => h9) rfl dX11_feed_58 ?_
    refine va_get (D := D) (ci := 8) (v := .int o54_nTA_size) (C := RX8) (T := TX8) (N := 2) hx hb hts iw_X11_feed_X8 hown hK hP 1 rfl rfl 1 (by decide) (hts (.fieldLink RX11 86 "SoldHouse$Tape" "size" "I") (List.mem_of_getElem? (i := 2) rfl)) (fun _ h9 => h9) rfl dX11_feed_61 ?_
    exact W.iret (v := o54_nTA_size) hx hb hr (fun t ht hW => ⟨⟨o54_nTA_size, (), rfl, (zB_w bo54_nTA_size (by decide) (by decide)), ⟨o54_nTA_size, o54_nTAbytes, bo54_nTA_size, by rw [ht]; exact hP, hD⟩⟩, hS.F ht⟩) hS.2.2 dX11_feed_64
  · have by10f_TA_size : zB TA_size 1581 1600 := zB_ltv (zf c10) (show zB 1580 1580 1580 from ⟨by decide, by decide⟩) b_TA_size (by decide)
    refine lv_iconst (v := (-1)) hx hb dX11_feed_13 (by decide) ?_
    exact W.iret (v := (-1)) hx hb hr (fun t ht hW => ⟨⟨(-1), (), rfl, (zB_w (show zB (-1) (-1) (-1) from ⟨by decide, by decide⟩) (by decide) (by decide)), ⟨TA_size, TA_bytes, (zB_w by10f_TA_size (by decide) (by decide)), by rw [ht]; exact hP, hD⟩⟩, hS.F ht⟩) hS.2.2 dX11_feed_14
set_option maxHeartbeats 4000000 in
set_option maxRecDepth 100000 in
theorem c_X11_end (l : Launch) (D : va_G) (cI : ClassId) (cB : ClassId) (cL : ClassId) (cZ : ClassId) (cG : ClassId) (SO : Nat) (x0 : Int32) (PL : Nat) (DR : Nat) (TA : Nat) (RE : Nat) (FL : Nat) (RO : Nat) (HU : Nat) (ME : Nat) (TR : Nat) (NI : Nat) (aTA : Nat → Nat) (TA_size : Int32) (sz : Nat) (b_TA_size : zB TA_size 0 1600) : Met l yX11_end wsX11_end ({ frames := 0, cells := 0, slots := 0, locals := 0 }) (xp D [(cI, .int), (cB, .byte), (cL, .long), (cZ, .boolean), (cG, .array .int)] [(SO, .inr (11, oX11 PL DR TA RE FL RO HU ME TR NI)), (TA, .inr (8, oX8 aTA TA_size))] sz [] [.ref SO, .int x0]) (va_Qi (fun (r : Int32) (_ : Unit) => zB r (-1) 1600) (fun (_ : Unit) (t : State) => ∃ (nTA_size : Int32), zB nTA_size 0 1600 ∧ xB D (va_A [(SO, .inr (11, oX11 PL DR TA RE FL RO HU ME TR NI)), (TA, .inr (8, oX8 aTA TA_size))] sz) [(SO, .inr (11, oX11 PL DR TA RE FL RO HU ME TR NI)), (TA, .inr (8, oX8 aTA nTA_size))] t) (va_A [(SO, .inr (11, oX11 PL DR TA RE FL RO HU ME TR NI)), (TA, .inr (8, oX8 aTA TA_size))] sz)) 0 0 (va_A [(SO, .inr (11, oX11 PL DR TA RE FL RO HU ME TR NI)), (TA, .inr (8, oX8 aTA TA_size))] sz) := by
  refine Met.ofW (cc := cX11_end) (maxL := 2) (ret := (some .int)) (by decide) rfl ?_
  intro p e s m args below meth c s₁ B hml hv
  obtain ⟨rfl, hsz, hP, hK, hD0, hNw⟩ := hv
  have hx := B.exec
  have hb := B.bytes
  have hr := B.returns
  have hts := atoms_spec (ws := wsX11_end) B.pre
  have hown : s.vm.findClass RX11 = some m.cls := findClass_of_methodNamed B.named
  have hlocks := B.notSynchronized
  clear B
  subst hsz
  have hD := hD0.self (sz := s.heap.size)
  clear hD0 hNw
  generalize hAe : va_A [(SO, .inr (11, oX11 PL DR TA RE FL RO HU ME TR NI)), (TA, .inr (8, oX8 aTA TA_size))] s.heap.size = A at hD ⊢
  have hA : ∀ q : Nat, s.heap.size ≤ q → A q := fun q h => by rw [← hAe]; exact Or.inr h
  have hS : va_S A s.heap s.heap [] := va_S.rf
  clear hAe
  obtain ⟨H, hH⟩ : ∃ H : Heap, H = s.heap := ⟨_, rfl⟩
  obtain ⟨locs, hlocs⟩ : ∃ L : List Loc, L = [] := ⟨_, rfl⟩
  replace hP : va_P D classes [(SO, .inr (11, oX11 PL DR TA RE FL RO HU ME TR NI)), (TA, .inr (8, oX8 aTA TA_size))] H := by rw [hH]; exact hP
  replace hS : va_S A s.heap H locs := by rw [hH, hlocs]; exact hS
  rw [← hH, ← hlocs]
  clear hlocs hH
  have hl := lv_entry ([.ref SO, .int x0]) (n := 2) (Nat.le_of_ble_eq_true rfl)
  rw [lg_entry_eq]
  generalize (lg_sl ([.ref SO, .int x0]) ++ List.replicate (2 - (lg_sl ([.ref SO, .int x0])).length) Slot.unset).toArray = ls at hl ⊢
  replace hl : lv_has ls 2 [(0, .ref SO), (1, .int x0)] := hl
  refine lv_iload_n hx hb dX11_end_0 rfl (lv_at hl 1 rfl) ?_
  refine lv_if_lt (tgt := 15) hx hb dX11_end_1 (by decide) (fun c1 => ?_) (fun c1 => ?_)
  · have bx1t_x0 : zB x0 (-2147483648) (-1) := zB_ltu (zl c1) (zB_top x0) (show zB 0 0 0 from ⟨by decide, by decide⟩) (by decide)
    refine lv_iconst (v := (-1)) hx hb dX11_end_15 (by decide) ?_
    exact W.iret (v := (-1)) hx hb hr (fun t ht hW => ⟨⟨(-1), (), rfl, (zB_w (show zB (-1) (-1) (-1) from ⟨by decide, by decide⟩) (by decide) (by decide)), ⟨TA_size, b_TA_size, by rw [ht]; exact hP, hD⟩⟩, hS.F ht⟩) hS.2.2 dX11_end_16
  · have by1f_x0 : zB x0 0 2147483647 := zB_lev (zg c1) (show zB 0 0 0 from ⟨by decide, by decide⟩) (zB_top x0) (by decide)
    refine lv_iload_n hx hb dX11_end_4 rfl (lv_at hl 1 rfl) ?_
    refine lv_aload_n hx hb dX11_end_5 rfl (lv_at hl 0 rfl) ?_
    refine va_get (D := D) (ci := 11) (v := .ref TA) (C := RX11) (T := TX11) (N := 10) hx hb hts iw_X11_end_X11 hown hK hP 0 rfl rfl 2 (by decide) (hts (.fieldLink RX11 22 "SoldHouse" "tape" "LSoldHouse$Tape;") (List.mem_of_getElem? (i := 1) rfl)) (fun _ h9 => h9) rfl dX11_end_6 ?_
    refine va_get (D := D) (ci := 8) (v := .int TA_size) (C := RX8) (T := TX8) (N := 2) hx hb hts iw_X11_end_X8 hown hK hP 1 rfl rfl 1 (by decide) (hts (.fieldLink RX11 86 "SoldHouse$Tape" "size" "I") (List.mem_of_getElem? (i := 2) rfl)) (fun _ h9 => h9) rfl dX11_end_9 ?_
    refine lv_icmp_le (tgt := 17) hx hb dX11_end_12 (by decide) (fun c12 => ?_) (fun c12 => ?_)
    · have bx12t_x0 : zB x0 0 1600 := zB_leu (ze c12) by1f_x0 b_TA_size (by decide)
      refine lv_aload_n hx hb dX11_end_17 rfl (lv_at hl 0 rfl) ?_
      refine va_get (D := D) (ci := 11) (v := .ref TA) (C := RX11) (T := TX11) (N := 10) hx hb hts iw_X11_end_X11 hown hK hP 0 rfl rfl 2 (by decide) (hts (.fieldLink RX11 22 "SoldHouse" "tape" "LSoldHouse$Tape;") (List.mem_of_getElem? (i := 1) rfl)) (fun _ h9 => h9) rfl dX11_end_18 ?_
      refine lv_iload_n hx hb dX11_end_21 rfl (lv_at hl 1 rfl) ?_
      refine va_put (D := D) (ci := 8) (v := .int x0) (ty := tyX8 1) (C := RX8) (T := TX8) (N := 2) hx hb hts iw_X11_end_X8 tyX8 tyX8_ok nmX8 hown hK hP hD hS 1 rfl rfl 1 (by decide) (hts (.fieldLink RX11 86 "SoldHouse$Tape" "size" "I") (List.mem_of_getElem? (i := 2) rfl)) (fun _ h9 => h9) rfl (by decide +kernel) rfl rfl (Nat.le_of_ble_eq_true rfl) dX11_end_22 (fun H locs hP hD hS => ?_)
      replace hP : va_P D classes [(SO, .inr (11, oX11 PL DR TA RE FL RO HU ME TR NI)), (TA, .inr (8, oX8 aTA x0))] H := hP
      replace hD : va_D A [(SO, .inr (11, oX11 PL DR TA RE FL RO HU ME TR NI)), (TA, .inr (8, oX8 aTA x0))] := hD
      refine lv_iload_n hx hb dX11_end_25 rfl (lv_at hl 1 rfl) ?_
      exact W.iret (v := x0) hx hb hr (fun t ht hW => ⟨⟨x0, (), rfl, (zB_w bx12t_x0 (by decide) (by decide)), ⟨x0, bx12t_x0, by rw [ht]; exact hP, hD⟩⟩, hS.F ht⟩) hS.2.2 dX11_end_26
    · have by12f_x0 : zB x0 1 2147483647 := zB_ltv (zf c12) b_TA_size by1f_x0 (by decide)
      refine lv_iconst (v := (-1)) hx hb dX11_end_15 (by decide) ?_
      exact W.iret (v := (-1)) hx hb hr (fun t ht hW => ⟨⟨(-1), (), rfl, (zB_w (show zB (-1) (-1) (-1) from ⟨by decide, by decide⟩) (by decide) (by decide)), ⟨TA_size, b_TA_size, by rw [ht]; exact hP, hD⟩⟩, hS.F ht⟩) hS.2.2 dX11_end_16
set_option maxHeartbeats 4000000 in
set_option maxRecDepth 100000 in
theorem c_X11_fault (l : Launch) (D : va_G) (cI : ClassId) (cB : ClassId) (cL : ClassId) (cZ : ClassId) (cG : ClassId) (SO : Nat) (x0 : Int32) (PL : Nat) (DR : Nat) (TA : Nat) (RE : Nat) (FL : Nat) (RO : Nat) (HU : Nat) (ME : Nat) (TR : Nat) (NI : Nat) (TO : Nat) (RE_fault : Int32) (RE_faultPlace : Int32) : Met l yX11_fault wsX11_fault ({ frames := 0, cells := 0, slots := 0, locals := 0 }) (xr D [(cI, .int), (cB, .byte), (cL, .long), (cZ, .boolean), (cG, .array .int)] [(SO, .inr (11, oX11 PL DR TA RE FL RO HU ME TR NI)), (RE, .inr (6, oX6 TO DR RE_fault RE_faultPlace))] [.ref SO, .int x0]) (vp_Si (fun r => True)) 0 0 (fun _ => False) := by
  refine Met.ofW (cc := cX11_fault) (maxL := 2) (ret := (some .int)) (by decide) rfl ?_
  intro p e s m args below meth c s₁ B hml hv
  obtain ⟨rfl, hP, hK⟩ := hv
  have hx := B.exec
  have hb := B.bytes
  have hr := B.returns
  have hts := atoms_spec (ws := wsX11_fault) B.pre
  have hown : s.vm.findClass RX11 = some m.cls := findClass_of_methodNamed B.named
  have hlocks := B.notSynchronized
  clear B
  have hl := lv_entry ([.ref SO, .int x0]) (n := 2) (Nat.le_of_ble_eq_true rfl)
  rw [lg_entry_eq]
  generalize (lg_sl ([.ref SO, .int x0]) ++ List.replicate (2 - (lg_sl ([.ref SO, .int x0])).length) Slot.unset).toArray = ls at hl ⊢
  replace hl : lv_has ls 2 [(0, .ref SO), (1, .int x0)] := hl
  refine lv_iload_n hx hb dX11_fault_0 rfl (lv_at hl 1 rfl) ?_
  by_cases c1_0 : x0 = 0
  · obtain rfl := c1_0
    refine lv_lookup (off := 27) (tgt := 28) hx hb dX11_fault_1 (by decide) (by decide) (by decide) ?_
    refine lv_aload_n hx hb dX11_fault_28 rfl (lv_at hl 0 rfl) ?_
    refine va_get (D := D) (ci := 11) (v := .ref RE) (C := RX11) (T := TX11) (N := 10) hx hb hts iw_X11_fault_X11 hown hK hP 0 rfl rfl 3 (by decide) (hts (.fieldLink RX11 31 "SoldHouse" "reader" "LSoldHouse$Reader;") (List.mem_of_getElem? (i := 1) rfl)) (fun _ h9 => h9) rfl dX11_fault_29 ?_
    refine va_get (D := D) (ci := 6) (v := .int RE_fault) (C := RX6) (T := TX6) (N := 4) hx hb hts iw_X11_fault_X6 hown hK hP 1 rfl rfl 2 (by decide) (hts (.fieldLink RX11 104 "SoldHouse$Reader" "fault" "I") (List.mem_of_getElem? (i := 2) rfl)) (fun _ h9 => h9) rfl dX11_fault_32 ?_
    exact W.iret (v := RE_fault) hx hb hr (fun t ht hW => ⟨RE_fault, rfl, trivial, ht⟩) (fun q hq => by cases hq) dX11_fault_35
  by_cases c1_1 : x0 = 1
  · obtain rfl := c1_1
    refine lv_lookup (off := 35) (tgt := 36) hx hb dX11_fault_1 (by decide) (by decide) (by decide) ?_
    refine lv_aload_n hx hb dX11_fault_36 rfl (lv_at hl 0 rfl) ?_
    refine va_get (D := D) (ci := 11) (v := .ref RE) (C := RX11) (T := TX11) (N := 10) hx hb hts iw_X11_fault_X11 hown hK hP 0 rfl rfl 3 (by decide) (hts (.fieldLink RX11 31 "SoldHouse" "reader" "LSoldHouse$Reader;") (List.mem_of_getElem? (i := 1) rfl)) (fun _ h9 => h9) rfl dX11_fault_37 ?_
    refine va_get (D := D) (ci := 6) (v := .int RE_faultPlace) (C := RX6) (T := TX6) (N := 4) hx hb hts iw_X11_fault_X6 hown hK hP 1 rfl rfl 3 (by decide) (hts (.fieldLink RX11 107 "SoldHouse$Reader" "faultPlace" "I") (List.mem_of_getElem? (i := 3) rfl)) (fun _ h9 => h9) rfl dX11_fault_40 ?_
    exact W.iret (v := RE_faultPlace) hx hb hr (fun t ht hW => ⟨RE_faultPlace, rfl, trivial, ht⟩) (fun q hq => by cases hq) dX11_fault_43
  refine lv_lookup (off := 43) (tgt := 44) hx hb dX11_fault_1 (by decide) ((lv_osw c1_0 (by decide)).trans ((lv_osw c1_1 (by decide)).trans rfl)) (by decide) ?_
  refine lv_iconst (v := (-1)) hx hb dX11_fault_44 (by decide) ?_
  exact W.iret (v := (-1)) hx hb hr (fun t ht hW => ⟨(-1), rfl, trivial, ht⟩) (fun q hq => by cases hq) dX11_fault_45
set_option maxHeartbeats 4000000 in
set_option maxRecDepth 100000 in
theorem c_X11_room (l : Launch) (D : va_G) (cI : ClassId) (cB : ClassId) (cL : ClassId) (cZ : ClassId) (cG : ClassId) (SO : Nat) (x0 : Int32) (x1 : Int32) (PL : Nat) (DR : Nat) (TA : Nat) (RE : Nat) (FL : Nat) (RO : Nat) (HU : Nat) (ME : Nat) (TR : Nat) (NI : Nat) (PL_rooms : Int32) (aPL : Nat → Nat) (PL_doors : Int32) (PL_things : Int32) (FO : Nat) (PL_draw : Int32) (PL_drawTold : Int32) (PL_creaks : Nat → Int32) (aFL : Nat → Nat) (FL_parting : Int32) (FL_next : Nat → Int32) (aME : Nat → Nat) (ME_oldest : Int32) (ME_done : Int32) (ME_undone : Int32) (ME_now : Nat → Int32) (b_PL_rooms : zB PL_rooms 0 8) (b_PL_doors : zB PL_doors 0 12) (b_PL_things : zB PL_things 0 6) (b_ME_oldest : zB ME_oldest 0 40) (b_ME_done : zB ME_done 0 40) (b_ME_undone : zB ME_undone 0 40) (s_ME_now_0 : zA ME_now 0 12 0 7) : Met l yX11_room wsX11_room ({ frames := 1, cells := 0, slots := 0, locals := 24 }) (xr D [(cI, .int), (cB, .byte), (cL, .long), (cZ, .boolean), (cG, .array .int)] [(SO, .inr (11, oX11 PL DR TA RE FL RO HU ME TR NI)), (PL, .inr (5, oX5 FO aPL PL_rooms PL_doors PL_things PL_draw PL_drawTold)), ((aPL 2), .inl (cI, 8, .inl PL_creaks)), (FL, .inr (0, oX0 PL aFL FL_parting)), ((aFL 1), .inl (cI, 8, .inl FL_next)), (ME, .inr (3, oX3 FL aME ME_oldest ME_done ME_undone)), ((aME 1), .inl (cI, 32, .inl ME_now))] [.ref SO, .int x0, .int x1]) (vp_Si (fun r => True)) 0 0 (fun _ => False) := by
  refine Met.ofW (cc := cX11_room) (maxL := 3) (ret := (some .int)) (by decide) rfl ?_
  intro p e s m args below meth c s₁ B hml hv
  obtain ⟨rfl, hP, hK⟩ := hv
  have hx := B.exec
  have hb := B.bytes
  have hr := B.returns
  have hts := atoms_spec (ws := wsX11_room) B.pre
  have hown : s.vm.findClass RX11 = some m.cls := findClass_of_methodNamed B.named
  have hlocks := B.notSynchronized
  clear B
  have hl := lv_entry ([.ref SO, .int x0, .int x1]) (n := 3) (Nat.le_of_ble_eq_true rfl)
  rw [lg_entry_eq]
  generalize (lg_sl ([.ref SO, .int x0, .int x1]) ++ List.replicate (3 - (lg_sl ([.ref SO, .int x0, .int x1])).length) Slot.unset).toArray = ls at hl ⊢
  replace hl : lv_has ls 3 [(0, .ref SO), (1, .int x0), (2, .int x1)] := hl
  refine lv_aload_n hx hb dX11_room_0 rfl (lv_at hl 0 rfl) ?_
  refine lv_iload_n hx hb dX11_room_1 rfl (lv_at hl 1 rfl) ?_
  have hPc := hP.sub (ws' := [(SO, .inr (11, oX11 PL DR TA RE FL RO HU ME TR NI)), (PL, .inr (5, oX5 FO aPL PL_rooms PL_doors PL_things PL_draw PL_drawTold))]) [0, 1] rfl
  refine vp_callSi (va_runV (As := [.int x0]) (rest := []) ⟨hx, hb, hml, hown, hts⟩ (c_X11_isRoom l D cI cB cL cZ cG SO x0 PL DR TA RE FL RO HU ME TR NI PL_rooms aPL PL_doors PL_things FO PL_draw PL_drawTold b_PL_rooms b_PL_doors b_PL_things) (cwV 1 hts gX11_room_X11_isRoom rfl rfl rfl (by decide +kernel) ⟨Nat.le_of_ble_eq_true rfl, Nat.le_of_ble_eq_true rfl⟩) ⟨xr_blind, va_recv hK hP (ci := 11) (q0 := 0) rfl rfl, fun U hU hW => xr_mk hU hW hPc hK⟩ rfl rfl hl.1 rfl (lv_room (Nat.le_of_ble_eq_true rfl)) dX11_room_2 ⟨Nat.le_of_ble_eq_true rfl, Nat.le_of_ble_eq_true rfl⟩).run (fun r2 hr2 => ?_)
  clear hPc
  rcases hr2 with rfl | ⟨rfl, hr2_1_0⟩
  · refine lv_if_ne (tgt := 10) hx hb dX11_room_5 (by decide) (fun c5 => absurd (by decide) c5) (fun _ => ?_)
    refine lv_iconst (v := (-1)) hx hb dX11_room_8 (by decide) ?_
    exact W.iret (v := (-1)) hx hb hr (fun t ht hW => ⟨(-1), rfl, trivial, ht⟩) (fun q hq => by cases hq) dX11_room_9
  · refine lv_if_ne (tgt := 10) hx hb dX11_room_5 (by decide) (fun _ => ?_) (fun c5 => absurd c5 (by decide))
    refine lv_iload_n hx hb dX11_room_10 rfl (lv_at hl 2 rfl) ?_
    by_cases c11_0 : x1 = 0
    · obtain rfl := c11_0
      refine lv_tableIn (off := 29) (tgt := 40) hx hb dX11_room_11 (by decide) (by decide) (by decide) (by decide) ?_
      refine lv_aload_n hx hb dX11_room_40 rfl (lv_at hl 0 rfl) ?_
      refine va_get (D := D) (ci := 11) (v := .ref PL) (C := RX11) (T := TX11) (N := 10) hx hb hts iw_X11_room_X11 hown hK hP 0 rfl rfl 0 (by decide) (hts (.fieldLink RX11 10 "SoldHouse" "plan" "LSoldHouse$Plan;") (List.mem_of_getElem? (i := 1) rfl)) (fun _ h9 => h9) rfl dX11_room_41 ?_
      refine va_get (D := D) (ci := 5) (v := .ref (aPL 2)) (C := RX5) (T := TX5) (N := 16) hx hb hts iw_X11_room_X5 hown hK hP 1 rfl rfl 2 (by decide) (hts (.fieldLink RX11 114 "SoldHouse$Plan" "creaks" "[I") (List.mem_of_getElem? (i := 2) rfl)) (fun _ h9 => h9) rfl dX11_room_44 ?_
      refine lv_iload_n hx hb dX11_room_47 rfl (lv_at hl 1 rfl) ?_
      refine va_iald hx hb hK hP 2 0 rfl rfl (zB_in hr2_1_0 (by decide) (by decide)) dX11_room_48 ?_
      refine lv_topi (fun y48 _ => ?_)
      exact W.iret (v := y48) hx hb hr (fun t ht hW => ⟨y48, rfl, trivial, ht⟩) (fun q hq => by cases hq) dX11_room_49
    by_cases c11_1 : x1 = 1
    · obtain rfl := c11_1
      refine lv_tableIn (off := 39) (tgt := 50) hx hb dX11_room_11 (by decide) (by decide) (by decide) (by decide) ?_
      refine lv_aload_n hx hb dX11_room_50 rfl (lv_at hl 0 rfl) ?_
      refine va_get (D := D) (ci := 11) (v := .ref FL) (C := RX11) (T := TX11) (N := 10) hx hb hts iw_X11_room_X11 hown hK hP 0 rfl rfl 4 (by decide) (hts (.fieldLink RX11 40 "SoldHouse" "floor" "LSoldHouse$Floor;") (List.mem_of_getElem? (i := 3) rfl)) (fun _ h9 => h9) rfl dX11_room_51 ?_
      refine va_get (D := D) (ci := 0) (v := .ref (aFL 1)) (C := RX0) (T := TX0) (N := 5) hx hb hts iw_X11_room_X0 hown hK hP 3 rfl rfl 1 (by decide) (hts (.fieldLink RX11 118 "SoldHouse$Floor" "next" "[I") (List.mem_of_getElem? (i := 4) rfl)) (fun _ h9 => h9) rfl dX11_room_54 ?_
      refine lv_iload_n hx hb dX11_room_57 rfl (lv_at hl 1 rfl) ?_
      refine va_iald hx hb hK hP 4 0 rfl rfl (zB_in hr2_1_0 (by decide) (by decide)) dX11_room_58 ?_
      refine lv_topi (fun y58 _ => ?_)
      exact W.iret (v := y58) hx hb hr (fun t ht hW => ⟨y58, rfl, trivial, ht⟩) (fun q hq => by cases hq) dX11_room_59
    by_cases c11_2 : x1 = 2
    · obtain rfl := c11_2
      refine lv_tableIn (off := 49) (tgt := 60) hx hb dX11_room_11 (by decide) (by decide) (by decide) (by decide) ?_
      refine lv_aload_n hx hb dX11_room_60 rfl (lv_at hl 0 rfl) ?_
      refine va_get (D := D) (ci := 11) (v := .ref ME) (C := RX11) (T := TX11) (N := 10) hx hb hts iw_X11_room_X11 hown hK hP 0 rfl rfl 7 (by decide) (hts (.fieldLink RX11 63 "SoldHouse" "memory" "LSoldHouse$Memory;") (List.mem_of_getElem? (i := 5) rfl)) (fun _ h9 => h9) rfl dX11_room_61 ?_
      refine lv_iconst (v := 0) hx hb dX11_room_64 (by decide) ?_
      refine lv_iload_n hx hb dX11_room_65 rfl (lv_at hl 1 rfl) ?_
      have hPc := hP.sub (ws' := [(ME, .inr (3, oX3 FL aME ME_oldest ME_done ME_undone)), (FL, .inr (0, oX0 PL aFL FL_parting)), (PL, .inr (5, oX5 FO aPL PL_rooms PL_doors PL_things PL_draw PL_drawTold)), ((aME 1), .inl (cI, 32, .inl ME_now))]) [5, 3, 1, 6] rfl
      refine vp_callSi (va_runV (As := [.int 0, .int x0]) (rest := []) ⟨hx, hb, hml, hown, hts⟩ (c_X3_thingsWith l D cI cB cL cZ cG ME 0 x0 FL aME ME_oldest ME_done ME_undone PL aFL FL_parting PL_rooms aPL PL_doors PL_things FO PL_draw PL_drawTold ME_now (zB_w (show zB 0 0 0 from ⟨by decide, by decide⟩) (by decide) (by decide)) b_ME_oldest b_ME_done b_ME_undone b_PL_rooms b_PL_doors b_PL_things s_ME_now_0) (cwV 2 hts gX11_room_X3_thingsWith rfl rfl rfl (by decide +kernel) ⟨Nat.le_of_ble_eq_true rfl, Nat.le_of_ble_eq_true rfl⟩) ⟨xr_blind, va_recv hK hP (ci := 3) (q0 := 5) rfl rfl, fun U hU hW => xr_mk hU hW hPc hK⟩ rfl rfl hl.1 rfl (lv_room (Nat.le_of_ble_eq_true rfl)) dX11_room_66 ⟨Nat.le_of_ble_eq_true rfl, Nat.le_of_ble_eq_true rfl⟩).run (fun r66 hr66 => ?_)
      clear hPc
      exact W.iret (v := r66) hx hb hr (fun t ht hW => ⟨r66, rfl, trivial, ht⟩) (fun q hq => by cases hq) dX11_room_69
    by_cases c11_3 : x1 = 3
    · obtain rfl := c11_3
      refine lv_tableIn (off := 59) (tgt := 70) hx hb dX11_room_11 (by decide) (by decide) (by decide) (by decide) ?_
      refine lv_aload_n hx hb dX11_room_70 rfl (lv_at hl 0 rfl) ?_
      refine va_get (D := D) (ci := 11) (v := .ref ME) (C := RX11) (T := TX11) (N := 10) hx hb hts iw_X11_room_X11 hown hK hP 0 rfl rfl 7 (by decide) (hts (.fieldLink RX11 63 "SoldHouse" "memory" "LSoldHouse$Memory;") (List.mem_of_getElem? (i := 5) rfl)) (fun _ h9 => h9) rfl dX11_room_71 ?_
      refine lv_bipush (v := 6) hx hb dX11_room_74 (by decide) ?_
      refine lv_iload_n hx hb dX11_room_76 rfl (lv_at hl 1 rfl) ?_
      have hPc := hP.sub (ws' := [(ME, .inr (3, oX3 FL aME ME_oldest ME_done ME_undone)), (FL, .inr (0, oX0 PL aFL FL_parting)), (PL, .inr (5, oX5 FO aPL PL_rooms PL_doors PL_things PL_draw PL_drawTold)), ((aME 1), .inl (cI, 32, .inl ME_now))]) [5, 3, 1, 6] rfl
      refine vp_callSi (va_runV (As := [.int 6, .int x0]) (rest := []) ⟨hx, hb, hml, hown, hts⟩ (c_X3_thingsWith l D cI cB cL cZ cG ME 6 x0 FL aME ME_oldest ME_done ME_undone PL aFL FL_parting PL_rooms aPL PL_doors PL_things FO PL_draw PL_drawTold ME_now (zB_w (show zB 6 6 6 from ⟨by decide, by decide⟩) (by decide) (by decide)) b_ME_oldest b_ME_done b_ME_undone b_PL_rooms b_PL_doors b_PL_things s_ME_now_0) (cwV 2 hts gX11_room_X3_thingsWith rfl rfl rfl (by decide +kernel) ⟨Nat.le_of_ble_eq_true rfl, Nat.le_of_ble_eq_true rfl⟩) ⟨xr_blind, va_recv hK hP (ci := 3) (q0 := 5) rfl rfl, fun U hU hW => xr_mk hU hW hPc hK⟩ rfl rfl hl.1 rfl (lv_room (Nat.le_of_ble_eq_true rfl)) dX11_room_77 ⟨Nat.le_of_ble_eq_true rfl, Nat.le_of_ble_eq_true rfl⟩).run (fun r77 hr77 => ?_)
      clear hPc
      exact W.iret (v := r77) hx hb hr (fun t ht hW => ⟨r77, rfl, trivial, ht⟩) (fun q hq => by cases hq) dX11_room_80
    refine lv_tableOut (tgt := 81) hx hb dX11_room_11 (by have h9_0 := zn (n := 0) c11_0 (by decide); have h9_1 := zn (n := 1) c11_1 (by decide); have h9_2 := zn (n := 2) c11_2 (by decide); have h9_3 := zn (n := 3) c11_3 (by decide); omega) (by decide) ?_
    refine lv_iconst (v := (-1)) hx hb dX11_room_81 (by decide) ?_
    exact W.iret (v := (-1)) hx hb hr (fun t ht hW => ⟨(-1), rfl, trivial, ht⟩) (fun q hq => by cases hq) dX11_room_82
set_option maxHeartbeats 4000000 in
set_option maxRecDepth 100000 in
theorem c_X11_thing (l : Launch) (D : va_G) (cI : ClassId) (cB : ClassId) (cL : ClassId) (cZ : ClassId) (cG : ClassId) (SO : Nat) (x0 : Int32) (x1 : Int32) (PL : Nat) (DR : Nat) (TA : Nat) (RE : Nat) (FL : Nat) (RO : Nat) (HU : Nat) (ME : Nat) (TR : Nat) (NI : Nat) (PL_rooms : Int32) (aPL : Nat → Nat) (PL_doors : Int32) (PL_things : Int32) (FO : Nat) (PL_draw : Int32) (PL_drawTold : Int32) (aME : Nat → Nat) (ME_oldest : Int32) (ME_done : Int32) (ME_undone : Int32) (ME_now : Nat → Int32) (PL_us : Nat → Int32) (PL_them : Nat → Int32) (aFL : Nat → Nat) (FL_parting : Int32) (aFO : Nat → Nat) (FO_size : Int32) (FO_units : Int32) (FO_told : Int32) (FL_far : Nat → Int32) (FO_known : Nat → Int32) (FO_steps : Nat → Int32) (FO_stack : Nat → Int32) (sz : Nat) (b_PL_rooms : zB PL_rooms 0 8) (b_PL_doors : zB PL_doors 0 12) (b_PL_things : zB PL_things 0 6) (b_ME_oldest : zB ME_oldest 0 40) (b_ME_done : zB ME_done 0 40) (b_ME_undone : zB ME_undone 0 40) (b_FO_size : zB FO_size 0 400) (s_ME_now_0 : zA ME_now 0 12 0 7) (s_FL_far_0 : zA FL_far 0 64 (-1) 7) : Met l yX11_thing wsX11_thing ({ frames := 3, cells := 0, slots := 0, locals := 69 }) (xp D [(cI, .int), (cB, .byte), (cL, .long), (cZ, .boolean), (cG, .array .int)] [(SO, .inr (11, oX11 PL DR TA RE FL RO HU ME TR NI)), (PL, .inr (5, oX5 FO aPL PL_rooms PL_doors PL_things PL_draw PL_drawTold)), (ME, .inr (3, oX3 FL aME ME_oldest ME_done ME_undone)), ((aME 1), .inl (cI, 32, .inl ME_now)), ((aPL 11), .inl (cI, 6, .inl PL_us)), ((aPL 12), .inl (cI, 6, .inl PL_them)), (FL, .inr (0, oX0 PL aFL FL_parting)), (FO, .inr (1, oX1 aFO FO_size FO_units FO_told)), ((aFL 2), .inl (cI, 64, .inl FL_far)), ((aFO 2), .inl (cI, 5, .inl FO_known)), ((aFO 0), .inl (cI, 400, .inl FO_steps)), ((aFO 1), .inl (cI, 61, .inl FO_stack))] sz [] [.ref SO, .int x0, .int x1]) (va_Qi (fun (r : Int32) (_ : Unit) => True) (fun (_ : Unit) (t : State) => ∃ (nFOknown : Nat → Int32), ∃ (nFOstack : Nat → Int32), xB D (va_A [(SO, .inr (11, oX11 PL DR TA RE FL RO HU ME TR NI)), (PL, .inr (5, oX5 FO aPL PL_rooms PL_doors PL_things PL_draw PL_drawTold)), (ME, .inr (3, oX3 FL aME ME_oldest ME_done ME_undone)), ((aME 1), .inl (cI, 32, .inl ME_now)), ((aPL 11), .inl (cI, 6, .inl PL_us)), ((aPL 12), .inl (cI, 6, .inl PL_them)), (FL, .inr (0, oX0 PL aFL FL_parting)), (FO, .inr (1, oX1 aFO FO_size FO_units FO_told)), ((aFL 2), .inl (cI, 64, .inl FL_far)), ((aFO 2), .inl (cI, 5, .inl FO_known)), ((aFO 0), .inl (cI, 400, .inl FO_steps)), ((aFO 1), .inl (cI, 61, .inl FO_stack))] sz) [(SO, .inr (11, oX11 PL DR TA RE FL RO HU ME TR NI)), (PL, .inr (5, oX5 FO aPL PL_rooms PL_doors PL_things PL_draw PL_drawTold)), (ME, .inr (3, oX3 FL aME ME_oldest ME_done ME_undone)), ((aME 1), .inl (cI, 32, .inl ME_now)), ((aPL 11), .inl (cI, 6, .inl PL_us)), ((aPL 12), .inl (cI, 6, .inl PL_them)), (FL, .inr (0, oX0 PL aFL FL_parting)), (FO, .inr (1, oX1 aFO FO_size FO_units FO_told)), ((aFL 2), .inl (cI, 64, .inl FL_far)), ((aFO 2), .inl (cI, 5, .inl nFOknown)), ((aFO 0), .inl (cI, 400, .inl FO_steps)), ((aFO 1), .inl (cI, 61, .inl nFOstack))] t) (va_A [(SO, .inr (11, oX11 PL DR TA RE FL RO HU ME TR NI)), (PL, .inr (5, oX5 FO aPL PL_rooms PL_doors PL_things PL_draw PL_drawTold)), (ME, .inr (3, oX3 FL aME ME_oldest ME_done ME_undone)), ((aME 1), .inl (cI, 32, .inl ME_now)), ((aPL 11), .inl (cI, 6, .inl PL_us)), ((aPL 12), .inl (cI, 6, .inl PL_them)), (FL, .inr (0, oX0 PL aFL FL_parting)), (FO, .inr (1, oX1 aFO FO_size FO_units FO_told)), ((aFL 2), .inl (cI, 64, .inl FL_far)), ((aFO 2), .inl (cI, 5, .inl FO_known)), ((aFO 0), .inl (cI, 400, .inl FO_steps)), ((aFO 1), .inl (cI, 61, .inl FO_stack))] sz)) 0 0 (va_A [(SO, .inr (11, oX11 PL DR TA RE FL RO HU ME TR NI)), (PL, .inr (5, oX5 FO aPL PL_rooms PL_doors PL_things PL_draw PL_drawTold)), (ME, .inr (3, oX3 FL aME ME_oldest ME_done ME_undone)), ((aME 1), .inl (cI, 32, .inl ME_now)), ((aPL 11), .inl (cI, 6, .inl PL_us)), ((aPL 12), .inl (cI, 6, .inl PL_them)), (FL, .inr (0, oX0 PL aFL FL_parting)), (FO, .inr (1, oX1 aFO FO_size FO_units FO_told)), ((aFL 2), .inl (cI, 64, .inl FL_far)), ((aFO 2), .inl (cI, 5, .inl FO_known)), ((aFO 0), .inl (cI, 400, .inl FO_steps)), ((aFO 1), .inl (cI, 61, .inl FO_stack))] sz) := by
  refine Met.ofW (cc := cX11_thing) (maxL := 3) (ret := (some .int)) (by decide) rfl ?_
  intro p e s m args below meth c s₁ B hml hv
  obtain ⟨rfl, hsz, hP, hK, hD0, hNw⟩ := hv
  have hx := B.exec
  have hb := B.bytes
  have hr := B.returns
  have hts := atoms_spec (ws := wsX11_thing) B.pre
  have hown : s.vm.findClass RX11 = some m.cls := findClass_of_methodNamed B.named
  have hlocks := B.notSynchronized
  clear B
  subst hsz
  have hD := hD0.self (sz := s.heap.size)
  clear hD0 hNw
  generalize hAe : va_A [(SO, .inr (11, oX11 PL DR TA RE FL RO HU ME TR NI)), (PL, .inr (5, oX5 FO aPL PL_rooms PL_doors PL_things PL_draw PL_drawTold)), (ME, .inr (3, oX3 FL aME ME_oldest ME_done ME_undone)), ((aME 1), .inl (cI, 32, .inl ME_now)), ((aPL 11), .inl (cI, 6, .inl PL_us)), ((aPL 12), .inl (cI, 6, .inl PL_them)), (FL, .inr (0, oX0 PL aFL FL_parting)), (FO, .inr (1, oX1 aFO FO_size FO_units FO_told)), ((aFL 2), .inl (cI, 64, .inl FL_far)), ((aFO 2), .inl (cI, 5, .inl FO_known)), ((aFO 0), .inl (cI, 400, .inl FO_steps)), ((aFO 1), .inl (cI, 61, .inl FO_stack))] s.heap.size = A at hD ⊢
  have hA : ∀ q : Nat, s.heap.size ≤ q → A q := fun q h => by rw [← hAe]; exact Or.inr h
  have hS : va_S A s.heap s.heap [] := va_S.rf
  clear hAe
  obtain ⟨H, hH⟩ : ∃ H : Heap, H = s.heap := ⟨_, rfl⟩
  obtain ⟨locs, hlocs⟩ : ∃ L : List Loc, L = [] := ⟨_, rfl⟩
  replace hP : va_P D classes [(SO, .inr (11, oX11 PL DR TA RE FL RO HU ME TR NI)), (PL, .inr (5, oX5 FO aPL PL_rooms PL_doors PL_things PL_draw PL_drawTold)), (ME, .inr (3, oX3 FL aME ME_oldest ME_done ME_undone)), ((aME 1), .inl (cI, 32, .inl ME_now)), ((aPL 11), .inl (cI, 6, .inl PL_us)), ((aPL 12), .inl (cI, 6, .inl PL_them)), (FL, .inr (0, oX0 PL aFL FL_parting)), (FO, .inr (1, oX1 aFO FO_size FO_units FO_told)), ((aFL 2), .inl (cI, 64, .inl FL_far)), ((aFO 2), .inl (cI, 5, .inl FO_known)), ((aFO 0), .inl (cI, 400, .inl FO_steps)), ((aFO 1), .inl (cI, 61, .inl FO_stack))] H := by rw [hH]; exact hP
  replace hS : va_S A s.heap H locs := by rw [hH, hlocs]; exact hS
  rw [← hH, ← hlocs]
  clear hlocs hH
  have hl := lv_entry ([.ref SO, .int x0, .int x1]) (n := 3) (Nat.le_of_ble_eq_true rfl)
  rw [lg_entry_eq]
  generalize (lg_sl ([.ref SO, .int x0, .int x1]) ++ List.replicate (3 - (lg_sl ([.ref SO, .int x0, .int x1])).length) Slot.unset).toArray = ls at hl ⊢
  replace hl : lv_has ls 3 [(0, .ref SO), (1, .int x0), (2, .int x1)] := hl
  refine lv_aload_n hx hb dX11_thing_0 rfl (lv_at hl 0 rfl) ?_
  refine lv_iload_n hx hb dX11_thing_1 rfl (lv_at hl 1 rfl) ?_
  have hPc := hP.sub (ws' := [(SO, .inr (11, oX11 PL DR TA RE FL RO HU ME TR NI)), (PL, .inr (5, oX5 FO aPL PL_rooms PL_doors PL_things PL_draw PL_drawTold))]) [0, 1] rfl
  refine vp_callSi (va_runV (As := [.int x0]) (rest := []) ⟨hx, hb, hml, hown, hts⟩ (c_X11_isThing l D cI cB cL cZ cG SO x0 PL DR TA RE FL RO HU ME TR NI PL_rooms aPL PL_doors PL_things FO PL_draw PL_drawTold b_PL_rooms b_PL_doors b_PL_things) (cwV 1 hts gX11_thing_X11_isThing rfl rfl rfl (by decide +kernel) ⟨Nat.le_of_ble_eq_true rfl, Nat.le_of_ble_eq_true rfl⟩) ⟨xr_blind, va_recv hK hP (ci := 11) (q0 := 0) rfl rfl, fun U hU hW => xr_mk hU hW hPc hK⟩ rfl rfl hl.1 rfl (lv_room (Nat.le_of_ble_eq_true rfl)) dX11_thing_2 ⟨Nat.le_of_ble_eq_true rfl, Nat.le_of_ble_eq_true rfl⟩).run (fun r2 hr2 => ?_)
  clear hPc
  rcases hr2 with rfl | ⟨rfl, hr2_1_0⟩
  · refine lv_if_ne (tgt := 11) hx hb dX11_thing_5 (by decide) (fun c5 => absurd (by decide) c5) (fun _ => ?_)
    refine lv_bipush (v := (-2)) hx hb dX11_thing_8 (by decide) ?_
    exact W.iret (v := (-2)) hx hb hr (fun t ht hW => ⟨⟨(-2), (), rfl, trivial, ⟨FO_known, FO_stack, by rw [ht]; exact hP, hD⟩⟩, hS.F ht⟩) hS.2.2 dX11_thing_10
  · refine lv_if_ne (tgt := 11) hx hb dX11_thing_5 (by decide) (fun _ => ?_) (fun c5 => absurd c5 (by decide))
    refine lv_iload_n hx hb dX11_thing_11 rfl (lv_at hl 2 rfl) ?_
    by_cases c12_0 : x1 = 0
    · obtain rfl := c12_0
      refine lv_tableIn (off := 48) (tgt := 60) hx hb dX11_thing_12 (by decide) (by decide) (by decide) (by decide) ?_
      refine lv_aload_n hx hb dX11_thing_60 rfl (lv_at hl 0 rfl) ?_
      refine va_get (D := D) (ci := 11) (v := .ref ME) (C := RX11) (T := TX11) (N := 10) hx hb hts iw_X11_thing_X11 hown hK hP 0 rfl rfl 7 (by decide) (hts (.fieldLink RX11 63 "SoldHouse" "memory" "LSoldHouse$Memory;") (List.mem_of_getElem? (i := 1) rfl)) (fun _ h9 => h9) rfl dX11_thing_61 ?_
      refine va_get (D := D) (ci := 3) (v := .ref (aME 1)) (C := RX3) (T := TX3) (N := 9) hx hb hts iw_X11_thing_X3 hown hK hP 2 rfl rfl 1 (by decide) (hts (.fieldLink RX11 128 "SoldHouse$Memory" "now" "[I") (List.mem_of_getElem? (i := 2) rfl)) (fun _ h9 => h9) rfl dX11_thing_64 ?_
      refine lv_iconst (v := 0) hx hb dX11_thing_67 (by decide) ?_
      refine lv_iload_n hx hb dX11_thing_68 rfl (lv_at hl 1 rfl) ?_
      refine lv_iadd hx hb dX11_thing_69 ?_
      refine zi_top (a := 0) (b := 5) (zB_add (show zB 0 0 0 from ⟨by decide, by decide⟩) hr2_1_0 (by decide) (by decide) (by decide) (by decide)) (fun y69 by69 => ?_)
      refine va_iald hx hb hK hP 3 0 rfl rfl (zB_in by69 (by decide) (by decide)) dX11_thing_70 ?_
      refine zi_top (a := 0) (b := 7) (zA_at s_ME_now_0 by69 (by decide) (by decide)) (fun y70 by70 => ?_)
      exact W.iret (v := y70) hx hb hr (fun t ht hW => ⟨⟨y70, (), rfl, trivial, ⟨FO_known, FO_stack, by rw [ht]; exact hP, hD⟩⟩, hS.F ht⟩) hS.2.2 dX11_thing_71
    by_cases c12_1 : x1 = 1
    · obtain rfl := c12_1
      refine lv_tableIn (off := 60) (tgt := 72) hx hb dX11_thing_12 (by decide) (by decide) (by decide) (by decide) ?_
      refine lv_aload_n hx hb dX11_thing_72 rfl (lv_at hl 0 rfl) ?_
      refine va_get (D := D) (ci := 11) (v := .ref ME) (C := RX11) (T := TX11) (N := 10) hx hb hts iw_X11_thing_X11 hown hK hP 0 rfl rfl 7 (by decide) (hts (.fieldLink RX11 63 "SoldHouse" "memory" "LSoldHouse$Memory;") (List.mem_of_getElem? (i := 1) rfl)) (fun _ h9 => h9) rfl dX11_thing_73 ?_
      refine va_get (D := D) (ci := 3) (v := .ref (aME 1)) (C := RX3) (T := TX3) (N := 9) hx hb hts iw_X11_thing_X3 hown hK hP 2 rfl rfl 1 (by decide) (hts (.fieldLink RX11 128 "SoldHouse$Memory" "now" "[I") (List.mem_of_getElem? (i := 2) rfl)) (fun _ h9 => h9) rfl dX11_thing_76 ?_
      refine lv_bipush (v := 6) hx hb dX11_thing_79 (by decide) ?_
      refine lv_iload_n hx hb dX11_thing_81 rfl (lv_at hl 1 rfl) ?_
      refine lv_iadd hx hb dX11_thing_82 ?_
      refine zi_top (a := 6) (b := 11) (zB_add (show zB 6 6 6 from ⟨by decide, by decide⟩) hr2_1_0 (by decide) (by decide) (by decide) (by decide)) (fun y82 by82 => ?_)
      refine va_iald hx hb hK hP 3 0 rfl rfl (zB_in by82 (by decide) (by decide)) dX11_thing_83 ?_
      refine zi_top (a := 0) (b := 7) (zA_at s_ME_now_0 by82 (by decide) (by decide)) (fun y83 by83 => ?_)
      exact W.iret (v := y83) hx hb hr (fun t ht hW => ⟨⟨y83, (), rfl, trivial, ⟨FO_known, FO_stack, by rw [ht]; exact hP, hD⟩⟩, hS.F ht⟩) hS.2.2 dX11_thing_84
    by_cases c12_2 : x1 = 2
    · obtain rfl := c12_2
      refine lv_tableIn (off := 73) (tgt := 85) hx hb dX11_thing_12 (by decide) (by decide) (by decide) (by decide) ?_
      refine lv_aload_n hx hb dX11_thing_85 rfl (lv_at hl 0 rfl) ?_
      refine va_get (D := D) (ci := 11) (v := .ref ME) (C := RX11) (T := TX11) (N := 10) hx hb hts iw_X11_thing_X11 hown hK hP 0 rfl rfl 7 (by decide) (hts (.fieldLink RX11 63 "SoldHouse" "memory" "LSoldHouse$Memory;") (List.mem_of_getElem? (i := 1) rfl)) (fun _ h9 => h9) rfl dX11_thing_86 ?_
      refine va_get (D := D) (ci := 3) (v := .ref (aME 1)) (C := RX3) (T := TX3) (N := 9) hx hb hts iw_X11_thing_X3 hown hK hP 2 rfl rfl 1 (by decide) (hts (.fieldLink RX11 128 "SoldHouse$Memory" "now" "[I") (List.mem_of_getElem? (i := 2) rfl)) (fun _ h9 => h9) rfl dX11_thing_89 ?_
      refine lv_bipush (v := 12) hx hb dX11_thing_92 (by decide) ?_
      refine lv_iload_n hx hb dX11_thing_94 rfl (lv_at hl 1 rfl) ?_
      refine lv_iadd hx hb dX11_thing_95 ?_
      refine zi_top (a := 12) (b := 17) (zB_add (show zB 12 12 12 from ⟨by decide, by decide⟩) hr2_1_0 (by decide) (by decide) (by decide) (by decide)) (fun y95 by95 => ?_)
      refine va_iald hx hb hK hP 3 0 rfl rfl (zB_in by95 (by decide) (by decide)) dX11_thing_96 ?_
      refine lv_topi (fun y96 _ => ?_)
      exact W.iret (v := y96) hx hb hr (fun t ht hW => ⟨⟨y96, (), rfl, trivial, ⟨FO_known, FO_stack, by rw [ht]; exact hP, hD⟩⟩, hS.F ht⟩) hS.2.2 dX11_thing_97
    by_cases c12_3 : x1 = 3
    · obtain rfl := c12_3
      refine lv_tableIn (off := 86) (tgt := 98) hx hb dX11_thing_12 (by decide) (by decide) (by decide) (by decide) ?_
      refine lv_aload_n hx hb dX11_thing_98 rfl (lv_at hl 0 rfl) ?_
      refine va_get (D := D) (ci := 11) (v := .ref PL) (C := RX11) (T := TX11) (N := 10) hx hb hts iw_X11_thing_X11 hown hK hP 0 rfl rfl 0 (by decide) (hts (.fieldLink RX11 10 "SoldHouse" "plan" "LSoldHouse$Plan;") (List.mem_of_getElem? (i := 3) rfl)) (fun _ h9 => h9) rfl dX11_thing_99 ?_
      refine va_get (D := D) (ci := 5) (v := .ref (aPL 11)) (C := RX5) (T := TX5) (N := 16) hx hb hts iw_X11_thing_X5 hown hK hP 1 rfl rfl 11 (by decide) (hts (.fieldLink RX11 131 "SoldHouse$Plan" "us" "[I") (List.mem_of_getElem? (i := 4) rfl)) (fun _ h9 => h9) rfl dX11_thing_102 ?_
      refine lv_iload_n hx hb dX11_thing_105 rfl (lv_at hl 1 rfl) ?_
      refine va_iald hx hb hK hP 4 0 rfl rfl (zB_in hr2_1_0 (by decide) (by decide)) dX11_thing_106 ?_
      refine lv_topi (fun y106 _ => ?_)
      exact W.iret (v := y106) hx hb hr (fun t ht hW => ⟨⟨y106, (), rfl, trivial, ⟨FO_known, FO_stack, by rw [ht]; exact hP, hD⟩⟩, hS.F ht⟩) hS.2.2 dX11_thing_107
    by_cases c12_4 : x1 = 4
    · obtain rfl := c12_4
      refine lv_tableIn (off := 96) (tgt := 108) hx hb dX11_thing_12 (by decide) (by decide) (by decide) (by decide) ?_
      refine lv_aload_n hx hb dX11_thing_108 rfl (lv_at hl 0 rfl) ?_
      refine va_get (D := D) (ci := 11) (v := .ref PL) (C := RX11) (T := TX11) (N := 10) hx hb hts iw_X11_thing_X11 hown hK hP 0 rfl rfl 0 (by decide) (hts (.fieldLink RX11 10 "SoldHouse" "plan" "LSoldHouse$Plan;") (List.mem_of_getElem? (i := 3) rfl)) (fun _ h9 => h9) rfl dX11_thing_109 ?_
      refine va_get (D := D) (ci := 5) (v := .ref (aPL 12)) (C := RX5) (T := TX5) (N := 16) hx hb hts iw_X11_thing_X5 hown hK hP 1 rfl rfl 12 (by decide) (hts (.fieldLink RX11 134 "SoldHouse$Plan" "them" "[I") (List.mem_of_getElem? (i := 5) rfl)) (fun _ h9 => h9) rfl dX11_thing_112 ?_
      refine lv_iload_n hx hb dX11_thing_115 rfl (lv_at hl 1 rfl) ?_
      refine va_iald hx hb hK hP 5 0 rfl rfl (zB_in hr2_1_0 (by decide) (by decide)) dX11_thing_116 ?_
      refine lv_topi (fun y116 _ => ?_)
      exact W.iret (v := y116) hx hb hr (fun t ht hW => ⟨⟨y116, (), rfl, trivial, ⟨FO_known, FO_stack, by rw [ht]; exact hP, hD⟩⟩, hS.F ht⟩) hS.2.2 dX11_thing_117
    by_cases c12_5 : x1 = 5
    · obtain rfl := c12_5
      refine lv_tableIn (off := 106) (tgt := 118) hx hb dX11_thing_12 (by decide) (by decide) (by decide) (by decide) ?_
      refine lv_aload_n hx hb dX11_thing_118 rfl (lv_at hl 0 rfl) ?_
      refine va_get (D := D) (ci := 11) (v := .ref ME) (C := RX11) (T := TX11) (N := 10) hx hb hts iw_X11_thing_X11 hown hK hP 0 rfl rfl 7 (by decide) (hts (.fieldLink RX11 63 "SoldHouse" "memory" "LSoldHouse$Memory;") (List.mem_of_getElem? (i := 1) rfl)) (fun _ h9 => h9) rfl dX11_thing_119 ?_
      refine va_get (D := D) (ci := 3) (v := .ref (aME 1)) (C := RX3) (T := TX3) (N := 9) hx hb hts iw_X11_thing_X3 hown hK hP 2 rfl rfl 1 (by decide) (hts (.fieldLink RX11 128 "SoldHouse$Memory" "now" "[I") (List.mem_of_getElem? (i := 2) rfl)) (fun _ h9 => h9) rfl dX11_thing_122 ?_
      refine lv_bipush (v := 18) hx hb dX11_thing_125 (by decide) ?_
      refine lv_iload_n hx hb dX11_thing_127 rfl (lv_at hl 1 rfl) ?_
      refine lv_iadd hx hb dX11_thing_128 ?_
      refine zi_top (a := 18) (b := 23) (zB_add (show zB 18 18 18 from ⟨by decide, by decide⟩) hr2_1_0 (by decide) (by decide) (by decide) (by decide)) (fun y128 by128 => ?_)
      refine va_iald hx hb hK hP 3 0 rfl rfl (zB_in by128 (by decide) (by decide)) dX11_thing_129 ?_
      refine lv_topi (fun y129 _ => ?_)
      exact W.iret (v := y129) hx hb hr (fun t ht hW => ⟨⟨y129, (), rfl, trivial, ⟨FO_known, FO_stack, by rw [ht]; exact hP, hD⟩⟩, hS.F ht⟩) hS.2.2 dX11_thing_130
    by_cases c12_6 : x1 = 6
    · obtain rfl := c12_6
      refine lv_tableIn (off := 119) (tgt := 131) hx hb dX11_thing_12 (by decide) (by decide) (by decide) (by decide) ?_
      refine lv_aload_n hx hb dX11_thing_131 rfl (lv_at hl 0 rfl) ?_
      refine va_get (D := D) (ci := 11) (v := .ref ME) (C := RX11) (T := TX11) (N := 10) hx hb hts iw_X11_thing_X11 hown hK hP 0 rfl rfl 7 (by decide) (hts (.fieldLink RX11 63 "SoldHouse" "memory" "LSoldHouse$Memory;") (List.mem_of_getElem? (i := 1) rfl)) (fun _ h9 => h9) rfl dX11_thing_132 ?_
      refine va_get (D := D) (ci := 3) (v := .ref (aME 1)) (C := RX3) (T := TX3) (N := 9) hx hb hts iw_X11_thing_X3 hown hK hP 2 rfl rfl 1 (by decide) (hts (.fieldLink RX11 128 "SoldHouse$Memory" "now" "[I") (List.mem_of_getElem? (i := 2) rfl)) (fun _ h9 => h9) rfl dX11_thing_135 ?_
      refine lv_bipush (v := 24) hx hb dX11_thing_138 (by decide) ?_
      refine lv_iload_n hx hb dX11_thing_140 rfl (lv_at hl 1 rfl) ?_
      refine lv_iadd hx hb dX11_thing_141 ?_
      refine zi_top (a := 24) (b := 29) (zB_add (show zB 24 24 24 from ⟨by decide, by decide⟩) hr2_1_0 (by decide) (by decide) (by decide) (by decide)) (fun y141 by141 => ?_)
      refine va_iald hx hb hK hP 3 0 rfl rfl (zB_in by141 (by decide) (by decide)) dX11_thing_142 ?_
      refine lv_topi (fun y142 _ => ?_)
      exact W.iret (v := y142) hx hb hr (fun t ht hW => ⟨⟨y142, (), rfl, trivial, ⟨FO_known, FO_stack, by rw [ht]; exact hP, hD⟩⟩, hS.F ht⟩) hS.2.2 dX11_thing_143
    by_cases c12_7 : x1 = 7
    · obtain rfl := c12_7
      refine lv_tableIn (off := 132) (tgt := 144) hx hb dX11_thing_12 (by decide) (by decide) (by decide) (by decide) ?_
      refine lv_aload_n hx hb dX11_thing_144 rfl (lv_at hl 0 rfl) ?_
      refine va_get (D := D) (ci := 11) (v := .ref ME) (C := RX11) (T := TX11) (N := 10) hx hb hts iw_X11_thing_X11 hown hK hP 0 rfl rfl 7 (by decide) (hts (.fieldLink RX11 63 "SoldHouse" "memory" "LSoldHouse$Memory;") (List.mem_of_getElem? (i := 1) rfl)) (fun _ h9 => h9) rfl dX11_thing_145 ?_
      refine lv_aload_n hx hb dX11_thing_148 rfl (lv_at hl 0 rfl) ?_
      refine va_get (D := D) (ci := 11) (v := .ref ME) (C := RX11) (T := TX11) (N := 10) hx hb hts iw_X11_thing_X11 hown hK hP 0 rfl rfl 7 (by decide) (hts (.fieldLink RX11 63 "SoldHouse" "memory" "LSoldHouse$Memory;") (List.mem_of_getElem? (i := 1) rfl)) (fun _ h9 => h9) rfl dX11_thing_149 ?_
      refine va_get (D := D) (ci := 3) (v := .ref (aME 1)) (C := RX3) (T := TX3) (N := 9) hx hb hts iw_X11_thing_X3 hown hK hP 2 rfl rfl 1 (by decide) (hts (.fieldLink RX11 128 "SoldHouse$Memory" "now" "[I") (List.mem_of_getElem? (i := 2) rfl)) (fun _ h9 => h9) rfl dX11_thing_152 ?_
      refine lv_iload_n hx hb dX11_thing_155 rfl (lv_at hl 1 rfl) ?_
      refine lv_aload_n hx hb dX11_thing_156 rfl (lv_at hl 0 rfl) ?_
      refine va_get (D := D) (ci := 11) (v := .ref ME) (C := RX11) (T := TX11) (N := 10) hx hb hts iw_X11_thing_X11 hown hK hP 0 rfl rfl 7 (by decide) (hts (.fieldLink RX11 63 "SoldHouse" "memory" "LSoldHouse$Memory;") (List.mem_of_getElem? (i := 1) rfl)) (fun _ h9 => h9) rfl dX11_thing_157 ?_
      refine va_get (D := D) (ci := 3) (v := .ref (aME 1)) (C := RX3) (T := TX3) (N := 9) hx hb hts iw_X11_thing_X3 hown hK hP 2 rfl rfl 1 (by decide) (hts (.fieldLink RX11 128 "SoldHouse$Memory" "now" "[I") (List.mem_of_getElem? (i := 2) rfl)) (fun _ h9 => h9) rfl dX11_thing_160 ?_
      refine lv_bipush (v := 30) hx hb dX11_thing_163 (by decide) ?_
      refine va_iald hx hb hK hP 3 0 rfl rfl (zB_in (show zB 30 30 30 from ⟨by decide, by decide⟩) (by decide) (by decide)) dX11_thing_165 ?_
      refine lv_topi (fun y165 _ => ?_)
      have hPc := hP.sub (ws' := [((aME 1), .inl (cI, 32, .inl ME_now)), (ME, .inr (3, oX3 FL aME ME_oldest ME_done ME_undone)), (FL, .inr (0, oX0 PL aFL FL_parting)), (PL, .inr (5, oX5 FO aPL PL_rooms PL_doors PL_things PL_draw PL_drawTold)), (FO, .inr (1, oX1 aFO FO_size FO_units FO_told)), ((aPL 11), .inl (cI, 6, .inl PL_us)), ((aPL 12), .inl (cI, 6, .inl PL_them)), ((aFL 2), .inl (cI, 64, .inl FL_far)), ((aFO 2), .inl (cI, 5, .inl FO_known)), ((aFO 0), .inl (cI, 400, .inl FO_steps)), ((aFO 1), .inl (cI, 61, .inl FO_stack))]) [3, 2, 6, 1, 7, 4, 5, 8, 9, 10, 11] rfl
      have hDc := hD.sub (ws' := [((aME 1), .inl (cI, 32, .inl ME_now)), (ME, .inr (3, oX3 FL aME ME_oldest ME_done ME_undone)), (FL, .inr (0, oX0 PL aFL FL_parting)), (PL, .inr (5, oX5 FO aPL PL_rooms PL_doors PL_things PL_draw PL_drawTold)), (FO, .inr (1, oX1 aFO FO_size FO_units FO_told)), ((aPL 11), .inl (cI, 6, .inl PL_us)), ((aPL 12), .inl (cI, 6, .inl PL_them)), ((aFL 2), .inl (cI, 64, .inl FL_far)), ((aFO 2), .inl (cI, 5, .inl FO_known)), ((aFO 0), .inl (cI, 400, .inl FO_steps)), ((aFO 1), .inl (cI, 61, .inl FO_stack))]) [3, 2, 6, 1, 7, 4, 5, 8, 9, 10, 11] (by decide) rfl
      have hFc := va_free (wc := [((aME 1), .inl (cI, 32, .inl ME_now)), (ME, .inr (3, oX3 FL aME ME_oldest ME_done ME_undone)), (FL, .inr (0, oX0 PL aFL FL_parting)), (PL, .inr (5, oX5 FO aPL PL_rooms PL_doors PL_things PL_draw PL_drawTold)), (FO, .inr (1, oX1 aFO FO_size FO_units FO_told)), ((aPL 11), .inl (cI, 6, .inl PL_us)), ((aPL 12), .inl (cI, 6, .inl PL_them)), ((aFL 2), .inl (cI, 64, .inl FL_far)), ((aFO 2), .inl (cI, 5, .inl FO_known)), ((aFO 0), .inl (cI, 400, .inl FO_steps)), ((aFO 1), .inl (cI, 61, .inl FO_stack))]) hD hS hA [3, 2, 6, 1, 7, 4, 5, 8, 9, 10, 11] rfl
      refine va_calli (va_runV (As := [.ref (aME 1), .int x0, .int y165]) (rest := []) ⟨hx, hb, hml, hown, hts⟩ (c_X3_sureOf l D cI cB cL cZ cG ME (aME 1) ME_now x0 y165 FL aME ME_oldest ME_done ME_undone PL aFL FL_parting PL_rooms aPL PL_doors PL_things FO PL_draw PL_drawTold aFO FO_size FO_units FO_told PL_us PL_them FL_far FO_known FO_steps FO_stack H.size hr2_1_0 b_ME_oldest b_ME_done b_ME_undone b_PL_rooms b_PL_doors b_PL_things b_FO_size s_ME_now_0 s_FL_far_0) (cwV 3 hts gX11_thing_X3_sureOf rfl rfl rfl (by decide +kernel) ⟨Nat.le_of_ble_eq_true rfl, Nat.le_of_ble_eq_true rfl⟩) ⟨xp_blind, va_recv hK hP (ci := 3) (q0 := 2) rfl rfl, fun U hU hW => xp_mk hU hW hPc hK hDc xNw_nil⟩ rfl rfl hl.1 rfl (lv_room (Nat.le_of_ble_eq_true rfl)) dX11_thing_166 ⟨Nat.le_of_ble_eq_true rfl, Nat.le_of_ble_eq_true rfl⟩) hS (fun q _ h => hFc q h) hFc (fun r166 u9 t9 H1 locs ht9 hvm9 hr166 hB9 hz9 hk9 hS => ?_)
      obtain ⟨o166_nFOknown, o166_nFOstack, hP1, hD1⟩ := hB9
      rw [ht9] at hP1
      obtain ⟨hP, hD⟩ := va_join (wr := [(SO, .inr (11, oX11 PL DR TA RE FL RO HU ME TR NI))]) (w1 := [((aME 1), .inl (cI, 32, .inl ME_now)), (ME, .inr (3, oX3 FL aME ME_oldest ME_done ME_undone)), (FL, .inr (0, oX0 PL aFL FL_parting)), (PL, .inr (5, oX5 FO aPL PL_rooms PL_doors PL_things PL_draw PL_drawTold)), (FO, .inr (1, oX1 aFO FO_size FO_units FO_told)), ((aPL 11), .inl (cI, 6, .inl PL_us)), ((aPL 12), .inl (cI, 6, .inl PL_them)), ((aFL 2), .inl (cI, 64, .inl FL_far)), ((aFO 2), .inl (cI, 5, .inl o166_nFOknown)), ((aFO 0), .inl (cI, 400, .inl FO_steps)), ((aFO 1), .inl (cI, 61, .inl o166_nFOstack))]) hP hD [3, 2, 6, 1, 7, 4, 5, 8, 9, 10, 11] [0] rfl rfl (by decide) (by decide) hk9 hFc hP1 hD1
      clear hz9 hPc hDc hP1 hD1 hk9 hFc ht9 hvm9 u9 t9
      generalize H1 = H at hP hS ⊢
      replace hP : va_P D classes [(SO, .inr (11, oX11 PL DR TA RE FL RO HU ME TR NI)), (PL, .inr (5, oX5 FO aPL PL_rooms PL_doors PL_things PL_draw PL_drawTold)), (ME, .inr (3, oX3 FL aME ME_oldest ME_done ME_undone)), ((aME 1), .inl (cI, 32, .inl ME_now)), ((aPL 11), .inl (cI, 6, .inl PL_us)), ((aPL 12), .inl (cI, 6, .inl PL_them)), (FL, .inr (0, oX0 PL aFL FL_parting)), (FO, .inr (1, oX1 aFO FO_size FO_units FO_told)), ((aFL 2), .inl (cI, 64, .inl FL_far)), ((aFO 2), .inl (cI, 5, .inl o166_nFOknown)), ((aFO 0), .inl (cI, 400, .inl FO_steps)), ((aFO 1), .inl (cI, 61, .inl o166_nFOstack))] H := hP.sub [0, 4, 2, 1, 6, 7, 3, 5, 8, 9, 10, 11] rfl
      replace hD : va_D A [(SO, .inr (11, oX11 PL DR TA RE FL RO HU ME TR NI)), (PL, .inr (5, oX5 FO aPL PL_rooms PL_doors PL_things PL_draw PL_drawTold)), (ME, .inr (3, oX3 FL aME ME_oldest ME_done ME_undone)), ((aME 1), .inl (cI, 32, .inl ME_now)), ((aPL 11), .inl (cI, 6, .inl PL_us)), ((aPL 12), .inl (cI, 6, .inl PL_them)), (FL, .inr (0, oX0 PL aFL FL_parting)), (FO, .inr (1, oX1 aFO FO_size FO_units FO_told)), ((aFL 2), .inl (cI, 64, .inl FL_far)), ((aFO 2), .inl (cI, 5, .inl o166_nFOknown)), ((aFO 0), .inl (cI, 400, .inl FO_steps)), ((aFO 1), .inl (cI, 61, .inl o166_nFOstack))] := hD.sub [0, 4, 2, 1, 6, 7, 3, 5, 8, 9, 10, 11] (by decide) rfl
      exact W.iret (v := r166) hx hb hr (fun t ht hW => ⟨⟨r166, (), rfl, trivial, ⟨o166_nFOknown, o166_nFOstack, by rw [ht]; exact hP, hD⟩⟩, hS.F ht⟩) hS.2.2 dX11_thing_169
    refine lv_tableOut (tgt := 170) hx hb dX11_thing_12 (by have h9_0 := zn (n := 0) c12_0 (by decide); have h9_1 := zn (n := 1) c12_1 (by decide); have h9_2 := zn (n := 2) c12_2 (by decide); have h9_3 := zn (n := 3) c12_3 (by decide); have h9_4 := zn (n := 4) c12_4 (by decide); have h9_5 := zn (n := 5) c12_5 (by decide); have h9_6 := zn (n := 6) c12_6 (by decide); have h9_7 := zn (n := 7) c12_7 (by decide); omega) (by decide) ?_
    refine lv_bipush (v := (-2)) hx hb dX11_thing_170 (by decide) ?_
    exact W.iret (v := (-2)) hx hb hr (fun t ht hW => ⟨⟨(-2), (), rfl, trivial, ⟨FO_known, FO_stack, by rw [ht]; exact hP, hD⟩⟩, hS.F ht⟩) hS.2.2 dX11_thing_172
set_option maxHeartbeats 4000000 in
set_option maxRecDepth 100000 in
theorem c_X11_door (l : Launch) (D : va_G) (cI : ClassId) (cB : ClassId) (cL : ClassId) (cZ : ClassId) (cG : ClassId) (SO : Nat) (x0 : Int32) (x1 : Int32) (PL : Nat) (DR : Nat) (TA : Nat) (RE : Nat) (FL : Nat) (RO : Nat) (HU : Nat) (ME : Nat) (TR : Nat) (NI : Nat) (PL_rooms : Int32) (aPL : Nat → Nat) (PL_doors : Int32) (PL_things : Int32) (FO : Nat) (PL_draw : Int32) (PL_drawTold : Int32) (PL_doorFrom : Nat → Int32) (PL_doorTo : Nat → Int32) (aFL : Nat → Nat) (FL_parting : Int32) (FL_near : Nat → Int32) (b_PL_rooms : zB PL_rooms 0 8) (b_PL_doors : zB PL_doors 0 12) (b_PL_things : zB PL_things 0 6) (s_PL_doorFrom_0 : zA PL_doorFrom 0 12 0 7) (s_PL_doorTo_0 : zA PL_doorTo 0 12 0 7) : Met l yX11_door wsX11_door ({ frames := 1, cells := 0, slots := 0, locals := 21 }) (xr D [(cI, .int), (cB, .byte), (cL, .long), (cZ, .boolean), (cG, .array .int)] [(SO, .inr (11, oX11 PL DR TA RE FL RO HU ME TR NI)), (PL, .inr (5, oX5 FO aPL PL_rooms PL_doors PL_things PL_draw PL_drawTold)), ((aPL 4), .inl (cI, 12, .inl PL_doorFrom)), ((aPL 5), .inl (cI, 12, .inl PL_doorTo)), (FL, .inr (0, oX0 PL aFL FL_parting)), ((aFL 3), .inl (cI, 12, .inl FL_near))] [.ref SO, .int x0, .int x1]) (vp_Si (fun r => True)) 0 0 (fun _ => False) := by
  refine Met.ofW (cc := cX11_door) (maxL := 3) (ret := (some .int)) (by decide) rfl ?_
  intro p e s m args below meth c s₁ B hml hv
  obtain ⟨rfl, hP, hK⟩ := hv
  have hx := B.exec
  have hb := B.bytes
  have hr := B.returns
  have hts := atoms_spec (ws := wsX11_door) B.pre
  have hown : s.vm.findClass RX11 = some m.cls := findClass_of_methodNamed B.named
  have hlocks := B.notSynchronized
  clear B
  have hl := lv_entry ([.ref SO, .int x0, .int x1]) (n := 3) (Nat.le_of_ble_eq_true rfl)
  rw [lg_entry_eq]
  generalize (lg_sl ([.ref SO, .int x0, .int x1]) ++ List.replicate (3 - (lg_sl ([.ref SO, .int x0, .int x1])).length) Slot.unset).toArray = ls at hl ⊢
  replace hl : lv_has ls 3 [(0, .ref SO), (1, .int x0), (2, .int x1)] := hl
  refine lv_aload_n hx hb dX11_door_0 rfl (lv_at hl 0 rfl) ?_
  refine lv_iload_n hx hb dX11_door_1 rfl (lv_at hl 1 rfl) ?_
  have hPc := hP.sub (ws' := [(SO, .inr (11, oX11 PL DR TA RE FL RO HU ME TR NI)), (PL, .inr (5, oX5 FO aPL PL_rooms PL_doors PL_things PL_draw PL_drawTold))]) [0, 1] rfl
  refine vp_callSi (va_runV (As := [.int x0]) (rest := []) ⟨hx, hb, hml, hown, hts⟩ (c_X11_isDoor l D cI cB cL cZ cG SO x0 PL DR TA RE FL RO HU ME TR NI PL_rooms aPL PL_doors PL_things FO PL_draw PL_drawTold b_PL_rooms b_PL_doors b_PL_things) (cwV 1 hts gX11_door_X11_isDoor rfl rfl rfl (by decide +kernel) ⟨Nat.le_of_ble_eq_true rfl, Nat.le_of_ble_eq_true rfl⟩) ⟨xr_blind, va_recv hK hP (ci := 11) (q0 := 0) rfl rfl, fun U hU hW => xr_mk hU hW hPc hK⟩ rfl rfl hl.1 rfl (lv_room (Nat.le_of_ble_eq_true rfl)) dX11_door_2 ⟨Nat.le_of_ble_eq_true rfl, Nat.le_of_ble_eq_true rfl⟩).run (fun r2 hr2 => ?_)
  clear hPc
  rcases hr2 with rfl | ⟨rfl, hr2_1_0⟩
  · refine lv_if_ne (tgt := 10) hx hb dX11_door_5 (by decide) (fun c5 => absurd (by decide) c5) (fun _ => ?_)
    refine lv_iconst (v := (-1)) hx hb dX11_door_8 (by decide) ?_
    exact W.iret (v := (-1)) hx hb hr (fun t ht hW => ⟨(-1), rfl, trivial, ht⟩) (fun q hq => by cases hq) dX11_door_9
  · refine lv_if_ne (tgt := 10) hx hb dX11_door_5 (by decide) (fun _ => ?_) (fun c5 => absurd c5 (by decide))
    refine lv_iload_n hx hb dX11_door_10 rfl (lv_at hl 2 rfl) ?_
    by_cases c11_0 : x1 = 0
    · obtain rfl := c11_0
      refine lv_tableIn (off := 29) (tgt := 40) hx hb dX11_door_11 (by decide) (by decide) (by decide) (by decide) ?_
      refine lv_aload_n hx hb dX11_door_40 rfl (lv_at hl 0 rfl) ?_
      refine va_get (D := D) (ci := 11) (v := .ref PL) (C := RX11) (T := TX11) (N := 10) hx hb hts iw_X11_door_X11 hown hK hP 0 rfl rfl 0 (by decide) (hts (.fieldLink RX11 10 "SoldHouse" "plan" "LSoldHouse$Plan;") (List.mem_of_getElem? (i := 1) rfl)) (fun _ h9 => h9) rfl dX11_door_41 ?_
      refine va_get (D := D) (ci := 5) (v := .ref (aPL 4)) (C := RX5) (T := TX5) (N := 16) hx hb hts iw_X11_door_X5 hown hK hP 1 rfl rfl 4 (by decide) (hts (.fieldLink RX11 144 "SoldHouse$Plan" "doorFrom" "[I") (List.mem_of_getElem? (i := 2) rfl)) (fun _ h9 => h9) rfl dX11_door_44 ?_
      refine lv_iload_n hx hb dX11_door_47 rfl (lv_at hl 1 rfl) ?_
      refine va_iald hx hb hK hP 2 0 rfl rfl (zB_in hr2_1_0 (by decide) (by decide)) dX11_door_48 ?_
      refine zi_top (a := 0) (b := 7) (zA_at s_PL_doorFrom_0 hr2_1_0 (by decide) (by decide)) (fun y48 by48 => ?_)
      exact W.iret (v := y48) hx hb hr (fun t ht hW => ⟨y48, rfl, trivial, ht⟩) (fun q hq => by cases hq) dX11_door_49
    by_cases c11_1 : x1 = 1
    · obtain rfl := c11_1
      refine lv_tableIn (off := 39) (tgt := 50) hx hb dX11_door_11 (by decide) (by decide) (by decide) (by decide) ?_
      refine lv_aload_n hx hb dX11_door_50 rfl (lv_at hl 0 rfl) ?_
      refine va_get (D := D) (ci := 11) (v := .ref PL) (C := RX11) (T := TX11) (N := 10) hx hb hts iw_X11_door_X11 hown hK hP 0 rfl rfl 0 (by decide) (hts (.fieldLink RX11 10 "SoldHouse" "plan" "LSoldHouse$Plan;") (List.mem_of_getElem? (i := 1) rfl)) (fun _ h9 => h9) rfl dX11_door_51 ?_
      refine va_get (D := D) (ci := 5) (v := .ref (aPL 5)) (C := RX5) (T := TX5) (N := 16) hx hb hts iw_X11_door_X5 hown hK hP 1 rfl rfl 5 (by decide) (hts (.fieldLink RX11 147 "SoldHouse$Plan" "doorTo" "[I") (List.mem_of_getElem? (i := 3) rfl)) (fun _ h9 => h9) rfl dX11_door_54 ?_
      refine lv_iload_n hx hb dX11_door_57 rfl (lv_at hl 1 rfl) ?_
      refine va_iald hx hb hK hP 3 0 rfl rfl (zB_in hr2_1_0 (by decide) (by decide)) dX11_door_58 ?_
      refine zi_top (a := 0) (b := 7) (zA_at s_PL_doorTo_0 hr2_1_0 (by decide) (by decide)) (fun y58 by58 => ?_)
      exact W.iret (v := y58) hx hb hr (fun t ht hW => ⟨y58, rfl, trivial, ht⟩) (fun q hq => by cases hq) dX11_door_59
    by_cases c11_2 : x1 = 2
    · obtain rfl := c11_2
      refine lv_tableIn (off := 49) (tgt := 60) hx hb dX11_door_11 (by decide) (by decide) (by decide) (by decide) ?_
      refine lv_aload_n hx hb dX11_door_60 rfl (lv_at hl 0 rfl) ?_
      refine va_get (D := D) (ci := 11) (v := .ref FL) (C := RX11) (T := TX11) (N := 10) hx hb hts iw_X11_door_X11 hown hK hP 0 rfl rfl 4 (by decide) (hts (.fieldLink RX11 40 "SoldHouse" "floor" "LSoldHouse$Floor;") (List.mem_of_getElem? (i := 4) rfl)) (fun _ h9 => h9) rfl dX11_door_61 ?_
      refine va_get (D := D) (ci := 0) (v := .int FL_parting) (C := RX0) (T := TX0) (N := 5) hx hb hts iw_X11_door_X0 hown hK hP 4 rfl rfl 4 (by decide) (hts (.fieldLink RX11 150 "SoldHouse$Floor" "parting" "I") (List.mem_of_getElem? (i := 5) rfl)) (fun _ h9 => h9) rfl dX11_door_64 ?_
      refine lv_iload_n hx hb dX11_door_67 rfl (lv_at hl 1 rfl) ?_
      refine lv_ishr hx hb dX11_door_68 ?_
      refine lv_topi (fun y68 _ => ?_)
      refine lv_iconst (v := 1) hx hb dX11_door_69 (by decide) ?_
      refine lv_iand hx hb dX11_door_70 ?_
      refine zi_top (a := 0) (b := 1) (zB_andr (show zB 1 1 1 from ⟨by decide, by decide⟩) (by decide)) (fun y70 by70 => ?_)
      exact W.iret (v := y70) hx hb hr (fun t ht hW => ⟨y70, rfl, trivial, ht⟩) (fun q hq => by cases hq) dX11_door_71
    by_cases c11_3 : x1 = 3
    · obtain rfl := c11_3
      refine lv_tableIn (off := 61) (tgt := 72) hx hb dX11_door_11 (by decide) (by decide) (by decide) (by decide) ?_
      refine lv_aload_n hx hb dX11_door_72 rfl (lv_at hl 0 rfl) ?_
      refine va_get (D := D) (ci := 11) (v := .ref FL) (C := RX11) (T := TX11) (N := 10) hx hb hts iw_X11_door_X11 hown hK hP 0 rfl rfl 4 (by decide) (hts (.fieldLink RX11 40 "SoldHouse" "floor" "LSoldHouse$Floor;") (List.mem_of_getElem? (i := 4) rfl)) (fun _ h9 => h9) rfl dX11_door_73 ?_
      refine va_get (D := D) (ci := 0) (v := .ref (aFL 3)) (C := RX0) (T := TX0) (N := 5) hx hb hts iw_X11_door_X0 hown hK hP 4 rfl rfl 3 (by decide) (hts (.fieldLink RX11 153 "SoldHouse$Floor" "near" "[I") (List.mem_of_getElem? (i := 6) rfl)) (fun _ h9 => h9) rfl dX11_door_76 ?_
      refine lv_iload_n hx hb dX11_door_79 rfl (lv_at hl 1 rfl) ?_
      refine va_iald hx hb hK hP 5 0 rfl rfl (zB_in hr2_1_0 (by decide) (by decide)) dX11_door_80 ?_
      refine lv_topi (fun y80 _ => ?_)
      exact W.iret (v := y80) hx hb hr (fun t ht hW => ⟨y80, rfl, trivial, ht⟩) (fun q hq => by cases hq) dX11_door_81
    refine lv_tableOut (tgt := 82) hx hb dX11_door_11 (by have h9_0 := zn (n := 0) c11_0 (by decide); have h9_1 := zn (n := 1) c11_1 (by decide); have h9_2 := zn (n := 2) c11_2 (by decide); have h9_3 := zn (n := 3) c11_3 (by decide); omega) (by decide) ?_
    refine lv_iconst (v := (-1)) hx hb dX11_door_82 (by decide) ?_
    exact W.iret (v := (-1)) hx hb hr (fun t ht hW => ⟨(-1), rfl, trivial, ht⟩) (fun q hq => by cases hq) dX11_door_83
set_option maxHeartbeats 4000000 in
set_option maxRecDepth 100000 in
theorem c_X11_far (l : Launch) (D : va_G) (cI : ClassId) (cB : ClassId) (cL : ClassId) (cZ : ClassId) (cG : ClassId) (SO : Nat) (x0 : Int32) (x1 : Int32) (PL : Nat) (DR : Nat) (TA : Nat) (RE : Nat) (FL : Nat) (RO : Nat) (HU : Nat) (ME : Nat) (TR : Nat) (NI : Nat) (PL_rooms : Int32) (aPL : Nat → Nat) (PL_doors : Int32) (PL_things : Int32) (FO : Nat) (PL_draw : Int32) (PL_drawTold : Int32) (aFL : Nat → Nat) (FL_parting : Int32) (FL_far : Nat → Int32) (b_PL_rooms : zB PL_rooms 0 8) (b_PL_doors : zB PL_doors 0 12) (b_PL_things : zB PL_things 0 6) (s_FL_far_0 : zA FL_far 0 64 (-1) 7) : Met l yX11_far wsX11_far ({ frames := 1, cells := 0, slots := 0, locals := 22 }) (xr D [(cI, .int), (cB, .byte), (cL, .long), (cZ, .boolean), (cG, .array .int)] [(SO, .inr (11, oX11 PL DR TA RE FL RO HU ME TR NI)), (PL, .inr (5, oX5 FO aPL PL_rooms PL_doors PL_things PL_draw PL_drawTold)), (FL, .inr (0, oX0 PL aFL FL_parting)), ((aFL 2), .inl (cI, 64, .inl FL_far))] [.ref SO, .int x0, .int x1]) (vp_Si (fun r => zB r (-1) 7)) 0 0 (fun _ => False) := by
  refine Met.ofW (cc := cX11_far) (maxL := 3) (ret := (some .int)) (by decide) rfl ?_
  intro p e s m args below meth c s₁ B hml hv
  obtain ⟨rfl, hP, hK⟩ := hv
  have hx := B.exec
  have hb := B.bytes
  have hr := B.returns
  have hts := atoms_spec (ws := wsX11_far) B.pre
  have hown : s.vm.findClass RX11 = some m.cls := findClass_of_methodNamed B.named
  have hlocks := B.notSynchronized
  clear B
  have hl := lv_entry ([.ref SO, .int x0, .int x1]) (n := 3) (Nat.le_of_ble_eq_true rfl)
  rw [lg_entry_eq]
  generalize (lg_sl ([.ref SO, .int x0, .int x1]) ++ List.replicate (3 - (lg_sl ([.ref SO, .int x0, .int x1])).length) Slot.unset).toArray = ls at hl ⊢
  replace hl : lv_has ls 3 [(0, .ref SO), (1, .int x0), (2, .int x1)] := hl
  refine lv_aload_n hx hb dX11_far_0 rfl (lv_at hl 0 rfl) ?_
  refine lv_iload_n hx hb dX11_far_1 rfl (lv_at hl 1 rfl) ?_
  have hPc := hP.sub (ws' := [(SO, .inr (11, oX11 PL DR TA RE FL RO HU ME TR NI)), (PL, .inr (5, oX5 FO aPL PL_rooms PL_doors PL_things PL_draw PL_drawTold))]) [0, 1] rfl
  refine vp_callSi (va_runV (As := [.int x0]) (rest := []) ⟨hx, hb, hml, hown, hts⟩ (c_X11_isRoom l D cI cB cL cZ cG SO x0 PL DR TA RE FL RO HU ME TR NI PL_rooms aPL PL_doors PL_things FO PL_draw PL_drawTold b_PL_rooms b_PL_doors b_PL_things) (cwV 1 hts gX11_far_X11_isRoom rfl rfl rfl (by decide +kernel) ⟨Nat.le_of_ble_eq_true rfl, Nat.le_of_ble_eq_true rfl⟩) ⟨xr_blind, va_recv hK hP (ci := 11) (q0 := 0) rfl rfl, fun U hU hW => xr_mk hU hW hPc hK⟩ rfl rfl hl.1 rfl (lv_room (Nat.le_of_ble_eq_true rfl)) dX11_far_2 ⟨Nat.le_of_ble_eq_true rfl, Nat.le_of_ble_eq_true rfl⟩).run (fun r2 hr2 => ?_)
  clear hPc
  rcases hr2 with rfl | ⟨rfl, hr2_1_0⟩
  · refine lv_if_eq (tgt := 16) hx hb dX11_far_5 (by decide) (fun _ => ?_) (fun c5 => absurd (by decide) c5)
    refine lv_iconst (v := (-1)) hx hb dX11_far_16 (by decide) ?_
    exact W.iret (v := (-1)) hx hb hr (fun t ht hW => ⟨(-1), rfl, (zB_w (show zB (-1) (-1) (-1) from ⟨by decide, by decide⟩) (by decide) (by decide)), ht⟩) (fun q hq => by cases hq) dX11_far_17
  · refine lv_if_eq (tgt := 16) hx hb dX11_far_5 (by decide) (fun c5 => absurd c5 (by decide)) (fun _ => ?_)
    refine lv_aload_n hx hb dX11_far_8 rfl (lv_at hl 0 rfl) ?_
    refine lv_iload_n hx hb dX11_far_9 rfl (lv_at hl 2 rfl) ?_
    have hPc := hP.sub (ws' := [(SO, .inr (11, oX11 PL DR TA RE FL RO HU ME TR NI)), (PL, .inr (5, oX5 FO aPL PL_rooms PL_doors PL_things PL_draw PL_drawTold))]) [0, 1] rfl
    refine vp_callSi (va_runV (As := [.int x1]) (rest := []) ⟨hx, hb, hml, hown, hts⟩ (c_X11_isRoom l D cI cB cL cZ cG SO x1 PL DR TA RE FL RO HU ME TR NI PL_rooms aPL PL_doors PL_things FO PL_draw PL_drawTold b_PL_rooms b_PL_doors b_PL_things) (cwV 1 hts gX11_far_X11_isRoom rfl rfl rfl (by decide +kernel) ⟨Nat.le_of_ble_eq_true rfl, Nat.le_of_ble_eq_true rfl⟩) ⟨xr_blind, va_recv hK hP (ci := 11) (q0 := 0) rfl rfl, fun U hU hW => xr_mk hU hW hPc hK⟩ rfl rfl hl.1 rfl (lv_room (Nat.le_of_ble_eq_true rfl)) dX11_far_10 ⟨Nat.le_of_ble_eq_true rfl, Nat.le_of_ble_eq_true rfl⟩).run (fun r10 hr10 => ?_)
    clear hPc
    rcases hr10 with rfl | ⟨rfl, hr10_1_0⟩
    · refine lv_if_ne (tgt := 18) hx hb dX11_far_13 (by decide) (fun c13 => absurd (by decide) c13) (fun _ => ?_)
      refine lv_iconst (v := (-1)) hx hb dX11_far_16 (by decide) ?_
      exact W.iret (v := (-1)) hx hb hr (fun t ht hW => ⟨(-1), rfl, (zB_w (show zB (-1) (-1) (-1) from ⟨by decide, by decide⟩) (by decide) (by decide)), ht⟩) (fun q hq => by cases hq) dX11_far_17
    · refine lv_if_ne (tgt := 18) hx hb dX11_far_13 (by decide) (fun _ => ?_) (fun c13 => absurd c13 (by decide))
      refine lv_aload_n hx hb dX11_far_18 rfl (lv_at hl 0 rfl) ?_
      refine va_get (D := D) (ci := 11) (v := .ref FL) (C := RX11) (T := TX11) (N := 10) hx hb hts iw_X11_far_X11 hown hK hP 0 rfl rfl 4 (by decide) (hts (.fieldLink RX11 40 "SoldHouse" "floor" "LSoldHouse$Floor;") (List.mem_of_getElem? (i := 1) rfl)) (fun _ h9 => h9) rfl dX11_far_19 ?_
      refine lv_iload_n hx hb dX11_far_22 rfl (lv_at hl 1 rfl) ?_
      refine lv_iload_n hx hb dX11_far_23 rfl (lv_at hl 2 rfl) ?_
      have hPc := hP.sub (ws' := [(FL, .inr (0, oX0 PL aFL FL_parting)), ((aFL 2), .inl (cI, 64, .inl FL_far))]) [2, 3] rfl
      refine vp_callSi (va_runV (As := [.int x0, .int x1]) (rest := []) ⟨hx, hb, hml, hown, hts⟩ (c_X0_farOf l D cI cB cL cZ cG FL x0 x1 PL aFL FL_parting FL_far hr2_1_0 hr10_1_0 s_FL_far_0) (cwV 2 hts gX11_far_X0_farOf rfl rfl rfl (by decide +kernel) ⟨Nat.le_of_ble_eq_true rfl, Nat.le_of_ble_eq_true rfl⟩) ⟨xr_blind, va_recv hK hP (ci := 0) (q0 := 2) rfl rfl, fun U hU hW => xr_mk hU hW hPc hK⟩ rfl rfl hl.1 rfl (lv_room (Nat.le_of_ble_eq_true rfl)) dX11_far_24 ⟨Nat.le_of_ble_eq_true rfl, Nat.le_of_ble_eq_true rfl⟩).run (fun r24 hr24 => ?_)
      clear hPc
      exact W.iret (v := r24) hx hb hr (fun t ht hW => ⟨r24, rfl, hr24, ht⟩) (fun q hq => by cases hq) dX11_far_27
set_option maxHeartbeats 4000000 in
set_option maxRecDepth 100000 in
theorem c_X11_tell (l : Launch) (D : va_G) (cI : ClassId) (cB : ClassId) (cL : ClassId) (cZ : ClassId) (cG : ClassId) (SO : Nat) (x0 : Int32) (PL : Nat) (DR : Nat) (TA : Nat) (RE : Nat) (FL : Nat) (RO : Nat) (HU : Nat) (ME : Nat) (TR : Nat) (NI : Nat) (PL_rooms : Int32) (aPL : Nat → Nat) (PL_doors : Int32) (PL_things : Int32) (FO : Nat) (PL_draw : Int32) (PL_drawTold : Int32) (aME : Nat → Nat) (ME_oldest : Int32) (ME_done : Int32) (ME_undone : Int32) (ME_now : Nat → Int32) (ME_kept : Nat → Option Nat) (KRr : Nat → Nat) (KRf : Nat → Nat → Int32) (sz : Nat) (q_ME : ME_done.toInt + ME_undone.toInt ≤ 40) (b_PL_rooms : zB PL_rooms 0 8) (b_PL_doors : zB PL_doors 0 12) (b_PL_things : zB PL_things 0 6) (b_ME_oldest : zB ME_oldest 0 40) (b_ME_done : zB ME_done 0 40) (b_ME_undone : zB ME_undone 0 40) (s_ME_now_0 : zA ME_now 0 12 0 7) (k_ME_kept : ∀ j, j < 41 → ME_kept j = some (KRr j)) (w_KR : ∀ j, j < 41 → zA (KRf j) 0 12 0 7) : Met l yX11_tell wsX11_tell ({ frames := 2, cells := 0, slots := 0, locals := 60 }) (xp D [(cI, .int), (cB, .byte), (cL, .long), (cZ, .boolean), (cG, .array .int)] ([(SO, .inr (11, oX11 PL DR TA RE FL RO HU ME TR NI)), (PL, .inr (5, oX5 FO aPL PL_rooms PL_doors PL_things PL_draw PL_drawTold)), (ME, .inr (3, oX3 FL aME ME_oldest ME_done ME_undone)), ((aME 1), .inl (cI, 32, .inl ME_now)), ((aME 3), .inl (cG, 41, .inr (.inr (.inr (.inr ME_kept)))))] ++ rw41 cI KRr KRf) sz [] [.ref SO, .int x0]) (va_Qi (fun (r : Int32) (_ : Unit) => zB r (-1) 1) (fun (_ : Unit) (t : State) => ∃ (nME_oldest : Int32), ∃ (nME_done : Int32), ∃ (nME_undone : Int32), ∃ (nMEnow : Nat → Int32), ∃ (nKRf : Nat → Nat → Int32), zB nME_oldest 0 40 ∧ zB nME_done 0 40 ∧ zB nME_undone 0 40 ∧ zA nMEnow 0 12 0 7 ∧ (∀ j, j < 41 → zA (nKRf j) 0 12 0 7) ∧ nME_done.toInt + nME_undone.toInt ≤ 40 ∧ xB D (va_A ([(SO, .inr (11, oX11 PL DR TA RE FL RO HU ME TR NI)), (PL, .inr (5, oX5 FO aPL PL_rooms PL_doors PL_things PL_draw PL_drawTold)), (ME, .inr (3, oX3 FL aME ME_oldest ME_done ME_undone)), ((aME 1), .inl (cI, 32, .inl ME_now)), ((aME 3), .inl (cG, 41, .inr (.inr (.inr (.inr ME_kept)))))] ++ rw41 cI KRr KRf) sz) ([(SO, .inr (11, oX11 PL DR TA RE FL RO HU ME TR NI)), (PL, .inr (5, oX5 FO aPL PL_rooms PL_doors PL_things PL_draw PL_drawTold)), (ME, .inr (3, oX3 FL aME nME_oldest nME_done nME_undone)), ((aME 1), .inl (cI, 32, .inl nMEnow)), ((aME 3), .inl (cG, 41, .inr (.inr (.inr (.inr ME_kept)))))] ++ rw41 cI KRr nKRf) t) (va_A ([(SO, .inr (11, oX11 PL DR TA RE FL RO HU ME TR NI)), (PL, .inr (5, oX5 FO aPL PL_rooms PL_doors PL_things PL_draw PL_drawTold)), (ME, .inr (3, oX3 FL aME ME_oldest ME_done ME_undone)), ((aME 1), .inl (cI, 32, .inl ME_now)), ((aME 3), .inl (cG, 41, .inr (.inr (.inr (.inr ME_kept)))))] ++ rw41 cI KRr KRf) sz)) 0 0 (va_A ([(SO, .inr (11, oX11 PL DR TA RE FL RO HU ME TR NI)), (PL, .inr (5, oX5 FO aPL PL_rooms PL_doors PL_things PL_draw PL_drawTold)), (ME, .inr (3, oX3 FL aME ME_oldest ME_done ME_undone)), ((aME 1), .inl (cI, 32, .inl ME_now)), ((aME 3), .inl (cG, 41, .inr (.inr (.inr (.inr ME_kept)))))] ++ rw41 cI KRr KRf) sz) := by
  refine Met.ofW (cc := cX11_tell) (maxL := 2) (ret := (some .int)) (by decide) rfl ?_
  intro p e s m args below meth c s₁ B hml hv
  obtain ⟨rfl, hsz, hP, hK, hD0, hNw⟩ := hv
  have hx := B.exec
  have hb := B.bytes
  have hr := B.returns
  have hts := atoms_spec (ws := wsX11_tell) B.pre
  have hown : s.vm.findClass RX11 = some m.cls := findClass_of_methodNamed B.named
  have hlocks := B.notSynchronized
  clear B
  subst hsz
  have hD := hD0.self (sz := s.heap.size)
  clear hD0 hNw
  generalize hAe : va_A ([(SO, .inr (11, oX11 PL DR TA RE FL RO HU ME TR NI)), (PL, .inr (5, oX5 FO aPL PL_rooms PL_doors PL_things PL_draw PL_drawTold)), (ME, .inr (3, oX3 FL aME ME_oldest ME_done ME_undone)), ((aME 1), .inl (cI, 32, .inl ME_now)), ((aME 3), .inl (cG, 41, .inr (.inr (.inr (.inr ME_kept)))))] ++ rw41 cI KRr KRf) s.heap.size = A at hD ⊢
  have hA : ∀ q : Nat, s.heap.size ≤ q → A q := fun q h => by rw [← hAe]; exact Or.inr h
  have hS : va_S A s.heap s.heap [] := va_S.rf
  clear hAe
  obtain ⟨H, hH⟩ : ∃ H : Heap, H = s.heap := ⟨_, rfl⟩
  obtain ⟨locs, hlocs⟩ : ∃ L : List Loc, L = [] := ⟨_, rfl⟩
  replace hP : va_P D classes ([(SO, .inr (11, oX11 PL DR TA RE FL RO HU ME TR NI)), (PL, .inr (5, oX5 FO aPL PL_rooms PL_doors PL_things PL_draw PL_drawTold)), (ME, .inr (3, oX3 FL aME ME_oldest ME_done ME_undone)), ((aME 1), .inl (cI, 32, .inl ME_now)), ((aME 3), .inl (cG, 41, .inr (.inr (.inr (.inr ME_kept)))))] ++ rw41 cI KRr KRf) H := by rw [hH]; exact hP
  replace hS : va_S A s.heap H locs := by rw [hH, hlocs]; exact hS
  rw [← hH, ← hlocs]
  clear hlocs hH
  have hl := lv_entry ([.ref SO, .int x0]) (n := 2) (Nat.le_of_ble_eq_true rfl)
  rw [lg_entry_eq]
  generalize (lg_sl ([.ref SO, .int x0]) ++ List.replicate (2 - (lg_sl ([.ref SO, .int x0])).length) Slot.unset).toArray = ls at hl ⊢
  replace hl : lv_has ls 2 [(0, .ref SO), (1, .int x0)] := hl
  refine lv_aload_n hx hb dX11_tell_0 rfl (lv_at hl 0 rfl) ?_
  refine lv_iload_n hx hb dX11_tell_1 rfl (lv_at hl 1 rfl) ?_
  have hPc := hP.sub (ws' := [(SO, .inr (11, oX11 PL DR TA RE FL RO HU ME TR NI)), (PL, .inr (5, oX5 FO aPL PL_rooms PL_doors PL_things PL_draw PL_drawTold))]) [0, 1] rfl
  refine vp_callSi (va_runV (As := [.int x0]) (rest := []) ⟨hx, hb, hml, hown, hts⟩ (c_X11_isThing l D cI cB cL cZ cG SO x0 PL DR TA RE FL RO HU ME TR NI PL_rooms aPL PL_doors PL_things FO PL_draw PL_drawTold b_PL_rooms b_PL_doors b_PL_things) (cwV 1 hts gX11_tell_X11_isThing rfl rfl rfl (by decide +kernel) ⟨Nat.le_of_ble_eq_true rfl, Nat.le_of_ble_eq_true rfl⟩) ⟨xr_blind, va_recv hK hP (ci := 11) (q0 := 0) rfl rfl, fun U hU hW => xr_mk hU hW hPc hK⟩ rfl rfl hl.1 rfl (lv_room (Nat.le_of_ble_eq_true rfl)) dX11_tell_2 ⟨Nat.le_of_ble_eq_true rfl, Nat.le_of_ble_eq_true rfl⟩).run (fun r2 hr2 => ?_)
  clear hPc
  rcases hr2 with rfl | ⟨rfl, hr2_1_0⟩
  · refine lv_if_ne (tgt := 10) hx hb dX11_tell_5 (by decide) (fun c5 => absurd (by decide) c5) (fun _ => ?_)
    refine lv_iconst (v := (-1)) hx hb dX11_tell_8 (by decide) ?_
    exact W.iret (v := (-1)) hx hb hr (fun t ht hW => ⟨⟨(-1), (), rfl, (zB_w (show zB (-1) (-1) (-1) from ⟨by decide, by decide⟩) (by decide) (by decide)), ⟨ME_oldest, ME_done, ME_undone, ME_now, KRf, b_ME_oldest, b_ME_done, b_ME_undone, s_ME_now_0, w_KR, q_ME, by rw [ht]; exact hP, hD⟩⟩, hS.F ht⟩) hS.2.2 dX11_tell_9
  · refine lv_if_ne (tgt := 10) hx hb dX11_tell_5 (by decide) (fun _ => ?_) (fun c5 => absurd c5 (by decide))
    refine lv_aload_n hx hb dX11_tell_10 rfl (lv_at hl 0 rfl) ?_
    refine va_get (D := D) (ci := 11) (v := .ref ME) (C := RX11) (T := TX11) (N := 10) hx hb hts iw_X11_tell_X11 hown hK hP 0 rfl rfl 7 (by decide) (hts (.fieldLink RX11 63 "SoldHouse" "memory" "LSoldHouse$Memory;") (List.mem_of_getElem? (i := 1) rfl)) (fun _ h9 => h9) rfl dX11_tell_11 ?_
    refine lv_iload_n hx hb dX11_tell_14 rfl (lv_at hl 1 rfl) ?_
    refine lv_iconst (v := 0) hx hb dX11_tell_15 (by decide) ?_
    have hPc := hP.sub (ws' := [(ME, .inr (3, oX3 FL aME ME_oldest ME_done ME_undone)), ((aME 1), .inl (cI, 32, .inl ME_now))]) [2, 3] rfl
    have hDc := hD.sub (ws' := [(ME, .inr (3, oX3 FL aME ME_oldest ME_done ME_undone)), ((aME 1), .inl (cI, 32, .inl ME_now))]) [2, 3] (by decide) rfl
    have hFc := va_free (wc := [(ME, .inr (3, oX3 FL aME ME_oldest ME_done ME_undone)), ((aME 1), .inl (cI, 32, .inl ME_now))]) hD hS hA [2, 3] rfl
    refine va_callv (va_runV (As := [.int x0, .int 0]) (rest := []) ⟨hx, hb, hml, hown, hts⟩ (c_X3_speak l D cI cB cL cZ cG ME x0 0 FL aME ME_oldest ME_done ME_undone ME_now H.size hr2_1_0 b_ME_oldest b_ME_done b_ME_undone s_ME_now_0) (cwV 2 hts gX11_tell_X3_speak rfl rfl rfl (by decide +kernel) ⟨Nat.le_of_ble_eq_true rfl, Nat.le_of_ble_eq_true rfl⟩) ⟨xp_blind, va_recv hK hP (ci := 3) (q0 := 2) rfl rfl, fun U hU hW => xp_mk hU hW hPc hK hDc xNw_nil⟩ rfl rfl hl.1 rfl (lv_room (Nat.le_of_ble_eq_true rfl)) dX11_tell_16 ⟨Nat.le_of_ble_eq_true rfl, Nat.le_of_ble_eq_true rfl⟩) hS (fun q _ h => hFc q h) hFc (fun u9 t9 H1 locs ht9 hvm9 hr16 hB9 hz9 hk9 hS => ?_)
    obtain ⟨o16_nMEnow, so16_nMEnow_0, hP1, hD1⟩ := hB9
    rw [ht9] at hP1
    obtain ⟨hP, hD⟩ := va_join (wr := ([(SO, .inr (11, oX11 PL DR TA RE FL RO HU ME TR NI)), (PL, .inr (5, oX5 FO aPL PL_rooms PL_doors PL_things PL_draw PL_drawTold)), ((aME 3), .inl (cG, 41, .inr (.inr (.inr (.inr ME_kept)))))] ++ rw41 cI KRr KRf)) (w1 := [(ME, .inr (3, oX3 FL aME ME_oldest ME_done ME_undone)), ((aME 1), .inl (cI, 32, .inl o16_nMEnow))]) hP hD [2, 3] [0, 1, 4, 5, 6, 7, 8, 9, 10, 11, 12, 13, 14, 15, 16, 17, 18, 19, 20, 21, 22, 23, 24, 25, 26, 27, 28, 29, 30, 31, 32, 33, 34, 35, 36, 37, 38, 39, 40, 41, 42, 43, 44, 45] rfl rfl (by decide) (by decide) hk9 hFc hP1 hD1
    clear hz9 hPc hDc hP1 hD1 hk9 hFc ht9 hvm9 u9 t9
    generalize H1 = H at hP hS ⊢
    replace hP : va_P D classes ([(SO, .inr (11, oX11 PL DR TA RE FL RO HU ME TR NI)), (PL, .inr (5, oX5 FO aPL PL_rooms PL_doors PL_things PL_draw PL_drawTold)), (ME, .inr (3, oX3 FL aME ME_oldest ME_done ME_undone)), ((aME 1), .inl (cI, 32, .inl o16_nMEnow)), ((aME 3), .inl (cG, 41, .inr (.inr (.inr (.inr ME_kept)))))] ++ rw41 cI KRr KRf) H := hP.sub [0, 1, 44, 45, 2, 3, 4, 5, 6, 7, 8, 9, 10, 11, 12, 13, 14, 15, 16, 17, 18, 19, 20, 21, 22, 23, 24, 25, 26, 27, 28, 29, 30, 31, 32, 33, 34, 35, 36, 37, 38, 39, 40, 41, 42, 43] rfl
    replace hD : va_D A ([(SO, .inr (11, oX11 PL DR TA RE FL RO HU ME TR NI)), (PL, .inr (5, oX5 FO aPL PL_rooms PL_doors PL_things PL_draw PL_drawTold)), (ME, .inr (3, oX3 FL aME ME_oldest ME_done ME_undone)), ((aME 1), .inl (cI, 32, .inl o16_nMEnow)), ((aME 3), .inl (cG, 41, .inr (.inr (.inr (.inr ME_kept)))))] ++ rw41 cI KRr KRf) := hD.sub [0, 1, 44, 45, 2, 3, 4, 5, 6, 7, 8, 9, 10, 11, 12, 13, 14, 15, 16, 17, 18, 19, 20, 21, 22, 23, 24, 25, 26, 27, 28, 29, 30, 31, 32, 33, 34, 35, 36, 37, 38, 39, 40, 41, 42, 43] (by decide) rfl
    refine lv_aload_n hx hb dX11_tell_19 rfl (lv_at hl 0 rfl) ?_
    refine va_get (D := D) (ci := 11) (v := .ref ME) (C := RX11) (T := TX11) (N := 10) hx hb hts iw_X11_tell_X11 hown hK hP 0 rfl rfl 7 (by decide) (hts (.fieldLink RX11 63 "SoldHouse" "memory" "LSoldHouse$Memory;") (List.mem_of_getElem? (i := 1) rfl)) (fun _ h9 => h9) rfl dX11_tell_20 ?_
    have hPc := hP.sub (ws' := ([(ME, .inr (3, oX3 FL aME ME_oldest ME_done ME_undone)), ((aME 3), .inl (cG, 41, .inr (.inr (.inr (.inr ME_kept))))), ((aME 1), .inl (cI, 32, .inl o16_nMEnow))] ++ rw41 cI KRr KRf)) [2, 4, 3, 5, 6, 7, 8, 9, 10, 11, 12, 13, 14, 15, 16, 17, 18, 19, 20, 21, 22, 23, 24, 25, 26, 27, 28, 29, 30, 31, 32, 33, 34, 35, 36, 37, 38, 39, 40, 41, 42, 43, 44, 45] rfl
    have hDc := hD.sub (ws' := ([(ME, .inr (3, oX3 FL aME ME_oldest ME_done ME_undone)), ((aME 3), .inl (cG, 41, .inr (.inr (.inr (.inr ME_kept))))), ((aME 1), .inl (cI, 32, .inl o16_nMEnow))] ++ rw41 cI KRr KRf)) [2, 4, 3, 5, 6, 7, 8, 9, 10, 11, 12, 13, 14, 15, 16, 17, 18, 19, 20, 21, 22, 23, 24, 25, 26, 27, 28, 29, 30, 31, 32, 33, 34, 35, 36, 37, 38, 39, 40, 41, 42, 43, 44, 45] (by decide) rfl
    have hFc := va_free (wc := ([(ME, .inr (3, oX3 FL aME ME_oldest ME_done ME_undone)), ((aME 3), .inl (cG, 41, .inr (.inr (.inr (.inr ME_kept))))), ((aME 1), .inl (cI, 32, .inl o16_nMEnow))] ++ rw41 cI KRr KRf)) hD hS hA [2, 4, 3, 5, 6, 7, 8, 9, 10, 11, 12, 13, 14, 15, 16, 17, 18, 19, 20, 21, 22, 23, 24, 25, 26, 27, 28, 29, 30, 31, 32, 33, 34, 35, 36, 37, 38, 39, 40, 41, 42, 43, 44, 45] rfl
    refine va_callv (va_runV (As := []) (rest := []) ⟨hx, hb, hml, hown, hts⟩ (c_X3_keepAct l D cI cB cL cZ cG ME FL aME ME_oldest ME_done ME_undone ME_kept KRr o16_nMEnow KRf H.size b_ME_oldest b_ME_done b_ME_undone k_ME_kept so16_nMEnow_0 w_KR) (cwV 0 hts gX11_tell_X3_keepAct rfl rfl rfl (by decide +kernel) ⟨Nat.le_of_ble_eq_true rfl, Nat.le_of_ble_eq_true rfl⟩) ⟨xp_blind, va_recv hK hP (ci := 3) (q0 := 2) rfl rfl, fun U hU hW => xp_mk hU hW hPc hK hDc xNw_nil⟩ rfl rfl hl.1 rfl (lv_room (Nat.le_of_ble_eq_true rfl)) dX11_tell_23 ⟨Nat.le_of_ble_eq_true rfl, Nat.le_of_ble_eq_true rfl⟩) hS (fun q _ h => hFc q h) hFc (fun u9 t9 H1 locs ht9 hvm9 hr23 hB9 hz9 hk9 hS => ?_)
    obtain ⟨o23_nME_oldest, o23_nME_done, o23_nME_undone, o23_nKRf, bo23_nME_oldest, bo23_nME_done, bo23_nME_undone, wo23_nKRf, hP1, hD1⟩ := hB9
    rw [ht9] at hP1
    obtain ⟨hP, hD⟩ := va_join (wr := [(SO, .inr (11, oX11 PL DR TA RE FL RO HU ME TR NI)), (PL, .inr (5, oX5 FO aPL PL_rooms PL_doors PL_things PL_draw PL_drawTold))]) (w1 := ([(ME, .inr (3, oX3 FL aME o23_nME_oldest o23_nME_done o23_nME_undone)), ((aME 3), .inl (cG, 41, .inr (.inr (.inr (.inr ME_kept))))), ((aME 1), .inl (cI, 32, .inl o16_nMEnow))] ++ rw41 cI KRr o23_nKRf)) hP hD [2, 4, 3, 5, 6, 7, 8, 9, 10, 11, 12, 13, 14, 15, 16, 17, 18, 19, 20, 21, 22, 23, 24, 25, 26, 27, 28, 29, 30, 31, 32, 33, 34, 35, 36, 37, 38, 39, 40, 41, 42, 43, 44, 45] [0, 1] rfl rfl (by decide) (by decide) hk9 hFc hP1 hD1
    clear hz9 hPc hDc hP1 hD1 hk9 hFc ht9 hvm9 u9 t9
    generalize H1 = H at hP hS ⊢
    replace hP : va_P D classes ([(SO, .inr (11, oX11 PL DR TA RE FL RO HU ME TR NI)), (PL, .inr (5, oX5 FO aPL PL_rooms PL_doors PL_things PL_draw PL_drawTold)), (ME, .inr (3, oX3 FL aME o23_nME_oldest o23_nME_done o23_nME_undone)), ((aME 1), .inl (cI, 32, .inl o16_nMEnow)), ((aME 3), .inl (cG, 41, .inr (.inr (.inr (.inr ME_kept)))))] ++ rw41 cI KRr o23_nKRf) H := hP.sub [0, 1, 2, 4, 3, 5, 6, 7, 8, 9, 10, 11, 12, 13, 14, 15, 16, 17, 18, 19, 20, 21, 22, 23, 24, 25, 26, 27, 28, 29, 30, 31, 32, 33, 34, 35, 36, 37, 38, 39, 40, 41, 42, 43, 44, 45] rfl
    replace hD : va_D A ([(SO, .inr (11, oX11 PL DR TA RE FL RO HU ME TR NI)), (PL, .inr (5, oX5 FO aPL PL_rooms PL_doors PL_things PL_draw PL_drawTold)), (ME, .inr (3, oX3 FL aME o23_nME_oldest o23_nME_done o23_nME_undone)), ((aME 1), .inl (cI, 32, .inl o16_nMEnow)), ((aME 3), .inl (cG, 41, .inr (.inr (.inr (.inr ME_kept)))))] ++ rw41 cI KRr o23_nKRf) := hD.sub [0, 1, 2, 4, 3, 5, 6, 7, 8, 9, 10, 11, 12, 13, 14, 15, 16, 17, 18, 19, 20, 21, 22, 23, 24, 25, 26, 27, 28, 29, 30, 31, 32, 33, 34, 35, 36, 37, 38, 39, 40, 41, 42, 43, 44, 45] (by decide) rfl
    refine lv_aload_n hx hb dX11_tell_26 rfl (lv_at hl 0 rfl) ?_
    refine va_get (D := D) (ci := 11) (v := .ref ME) (C := RX11) (T := TX11) (N := 10) hx hb hts iw_X11_tell_X11 hown hK hP 0 rfl rfl 7 (by decide) (hts (.fieldLink RX11 63 "SoldHouse" "memory" "LSoldHouse$Memory;") (List.mem_of_getElem? (i := 1) rfl)) (fun _ h9 => h9) rfl dX11_tell_27 ?_
    refine lv_aload_n hx hb dX11_tell_30 rfl (lv_at hl 0 rfl) ?_
    refine va_get (D := D) (ci := 11) (v := .ref ME) (C := RX11) (T := TX11) (N := 10) hx hb hts iw_X11_tell_X11 hown hK hP 0 rfl rfl 7 (by decide) (hts (.fieldLink RX11 63 "SoldHouse" "memory" "LSoldHouse$Memory;") (List.mem_of_getElem? (i := 1) rfl)) (fun _ h9 => h9) rfl dX11_tell_31 ?_
    refine va_get (D := D) (ci := 3) (v := .ref (aME 1)) (C := RX3) (T := TX3) (N := 9) hx hb hts iw_X11_tell_X3 hown hK hP 2 rfl rfl 1 (by decide) (hts (.fieldLink RX11 128 "SoldHouse$Memory" "now" "[I") (List.mem_of_getElem? (i := 2) rfl)) (fun _ h9 => h9) rfl dX11_tell_34 ?_
    refine lv_iload_n hx hb dX11_tell_37 rfl (lv_at hl 1 rfl) ?_
    have hPc := hP.sub (ws' := [((aME 1), .inl (cI, 32, .inl o16_nMEnow))]) [3] rfl
    refine vp_callSi (va_runV (As := [.ref (aME 1), .int x0]) (rest := []) ⟨hx, hb, hml, hown, hts⟩ (c_X3_isRight l D cI cB cL cZ cG ME (aME 1) o16_nMEnow x0 hr2_1_0 so16_nMEnow_0) (cwV 2 hts gX11_tell_X3_isRight rfl rfl rfl (by decide +kernel) ⟨Nat.le_of_ble_eq_true rfl, Nat.le_of_ble_eq_true rfl⟩) ⟨xr_blind, va_recv hK hP (ci := 3) (q0 := 2) rfl rfl, fun U hU hW => xr_mk hU hW hPc hK⟩ rfl rfl hl.1 rfl (lv_room (Nat.le_of_ble_eq_true rfl)) dX11_tell_38 ⟨Nat.le_of_ble_eq_true rfl, Nat.le_of_ble_eq_true rfl⟩).run (fun r38 hr38 => ?_)
    clear hPc
    refine lv_if_eq (tgt := 48) hx hb dX11_tell_41 (by decide) (fun c41 => ?_) (fun c41 => ?_)
    · have be41t_r38 : zB r38 0 0 := zB_eq c41 hr38 (show zB 0 0 0 from ⟨by decide, by decide⟩) (by decide) (by decide)
      refine lv_iconst (v := 0) hx hb dX11_tell_48 (by decide) ?_
      exact W.iret (v := 0) hx hb hr (fun t ht hW => ⟨⟨0, (), rfl, (zB_w (show zB 0 0 0 from ⟨by decide, by decide⟩) (by decide) (by decide)), ⟨o23_nME_oldest, o23_nME_done, o23_nME_undone, o16_nMEnow, o23_nKRf, bo23_nME_oldest, (zB_w bo23_nME_done (by decide) (by decide)), (zB_w bo23_nME_undone (by decide) (by decide)), so16_nMEnow_0, wo23_nKRf, (by have h9_0 := (bo23_nME_done).1; have h9_1 := (bo23_nME_done).2; have h9_2 := (bo23_nME_undone).1; have h9_3 := (bo23_nME_undone).2; have h9_4 := q_ME; omega), by rw [ht]; exact hP, hD⟩⟩, hS.F ht⟩) hS.2.2 dX11_tell_49
    · have bn41f_r38 : zB r38 1 1 := zB_neL c41 hr38 (show zB 0 0 0 from ⟨by decide, by decide⟩) (by decide)
      refine lv_iconst (v := 1) hx hb dX11_tell_44 (by decide) ?_
      refine lv_goto (tgt := 49) hx hb dX11_tell_45 (by decide) ?_
      exact W.iret (v := 1) hx hb hr (fun t ht hW => ⟨⟨1, (), rfl, (zB_w (show zB 1 1 1 from ⟨by decide, by decide⟩) (by decide) (by decide)), ⟨o23_nME_oldest, o23_nME_done, o23_nME_undone, o16_nMEnow, o23_nKRf, bo23_nME_oldest, (zB_w bo23_nME_done (by decide) (by decide)), (zB_w bo23_nME_undone (by decide) (by decide)), so16_nMEnow_0, wo23_nKRf, (by have h9_0 := (bo23_nME_done).1; have h9_1 := (bo23_nME_done).2; have h9_2 := (bo23_nME_undone).1; have h9_3 := (bo23_nME_undone).2; have h9_4 := q_ME; omega), by rw [ht]; exact hP, hD⟩⟩, hS.F ht⟩) hS.2.2 dX11_tell_49
set_option maxHeartbeats 4000000 in
set_option maxRecDepth 100000 in
theorem c_X11_hear (l : Launch) (D : va_G) (cI : ClassId) (cB : ClassId) (cL : ClassId) (cZ : ClassId) (cG : ClassId) (SO : Nat) (x0 : Int32) (PL : Nat) (DR : Nat) (TA : Nat) (RE : Nat) (FL : Nat) (RO : Nat) (HU : Nat) (ME : Nat) (TR : Nat) (NI : Nat) (PL_rooms : Int32) (aPL : Nat → Nat) (PL_doors : Int32) (PL_things : Int32) (FO : Nat) (PL_draw : Int32) (PL_drawTold : Int32) (aME : Nat → Nat) (ME_oldest : Int32) (ME_done : Int32) (ME_undone : Int32) (ME_now : Nat → Int32) (ME_kept : Nat → Option Nat) (KRr : Nat → Nat) (KRf : Nat → Nat → Int32) (sz : Nat) (q_ME : ME_done.toInt + ME_undone.toInt ≤ 40) (b_PL_rooms : zB PL_rooms 0 8) (b_PL_doors : zB PL_doors 0 12) (b_PL_things : zB PL_things 0 6) (b_ME_oldest : zB ME_oldest 0 40) (b_ME_done : zB ME_done 0 40) (b_ME_undone : zB ME_undone 0 40) (s_ME_now_0 : zA ME_now 0 12 0 7) (k_ME_kept : ∀ j, j < 41 → ME_kept j = some (KRr j)) (w_KR : ∀ j, j < 41 → zA (KRf j) 0 12 0 7) : Met l yX11_hear wsX11_hear ({ frames := 2, cells := 0, slots := 0, locals := 60 }) (xp D [(cI, .int), (cB, .byte), (cL, .long), (cZ, .boolean), (cG, .array .int)] ([(SO, .inr (11, oX11 PL DR TA RE FL RO HU ME TR NI)), (PL, .inr (5, oX5 FO aPL PL_rooms PL_doors PL_things PL_draw PL_drawTold)), (ME, .inr (3, oX3 FL aME ME_oldest ME_done ME_undone)), ((aME 1), .inl (cI, 32, .inl ME_now)), ((aME 3), .inl (cG, 41, .inr (.inr (.inr (.inr ME_kept)))))] ++ rw41 cI KRr KRf) sz [] [.ref SO, .int x0]) (va_Qi (fun (r : Int32) (_ : Unit) => zB r (-1) 7) (fun (_ : Unit) (t : State) => ∃ (nME_oldest : Int32), ∃ (nME_done : Int32), ∃ (nME_undone : Int32), ∃ (nMEnow : Nat → Int32), ∃ (nKRf : Nat → Nat → Int32), zB nME_oldest 0 40 ∧ zB nME_done 0 40 ∧ zB nME_undone 0 40 ∧ zA nMEnow 0 12 0 7 ∧ (∀ j, j < 41 → zA (nKRf j) 0 12 0 7) ∧ nME_done.toInt + nME_undone.toInt ≤ 40 ∧ xB D (va_A ([(SO, .inr (11, oX11 PL DR TA RE FL RO HU ME TR NI)), (PL, .inr (5, oX5 FO aPL PL_rooms PL_doors PL_things PL_draw PL_drawTold)), (ME, .inr (3, oX3 FL aME ME_oldest ME_done ME_undone)), ((aME 1), .inl (cI, 32, .inl ME_now)), ((aME 3), .inl (cG, 41, .inr (.inr (.inr (.inr ME_kept)))))] ++ rw41 cI KRr KRf) sz) ([(SO, .inr (11, oX11 PL DR TA RE FL RO HU ME TR NI)), (PL, .inr (5, oX5 FO aPL PL_rooms PL_doors PL_things PL_draw PL_drawTold)), (ME, .inr (3, oX3 FL aME nME_oldest nME_done nME_undone)), ((aME 1), .inl (cI, 32, .inl nMEnow)), ((aME 3), .inl (cG, 41, .inr (.inr (.inr (.inr ME_kept)))))] ++ rw41 cI KRr nKRf) t) (va_A ([(SO, .inr (11, oX11 PL DR TA RE FL RO HU ME TR NI)), (PL, .inr (5, oX5 FO aPL PL_rooms PL_doors PL_things PL_draw PL_drawTold)), (ME, .inr (3, oX3 FL aME ME_oldest ME_done ME_undone)), ((aME 1), .inl (cI, 32, .inl ME_now)), ((aME 3), .inl (cG, 41, .inr (.inr (.inr (.inr ME_kept)))))] ++ rw41 cI KRr KRf) sz)) 0 0 (va_A ([(SO, .inr (11, oX11 PL DR TA RE FL RO HU ME TR NI)), (PL, .inr (5, oX5 FO aPL PL_rooms PL_doors PL_things PL_draw PL_drawTold)), (ME, .inr (3, oX3 FL aME ME_oldest ME_done ME_undone)), ((aME 1), .inl (cI, 32, .inl ME_now)), ((aME 3), .inl (cG, 41, .inr (.inr (.inr (.inr ME_kept)))))] ++ rw41 cI KRr KRf) sz) := by
  refine Met.ofW (cc := cX11_hear) (maxL := 2) (ret := (some .int)) (by decide) rfl ?_
  intro p e s m args below meth c s₁ B hml hv
  obtain ⟨rfl, hsz, hP, hK, hD0, hNw⟩ := hv
  have hx := B.exec
  have hb := B.bytes
  have hr := B.returns
  have hts := atoms_spec (ws := wsX11_hear) B.pre
  have hown : s.vm.findClass RX11 = some m.cls := findClass_of_methodNamed B.named
  have hlocks := B.notSynchronized
  clear B
  subst hsz
  have hD := hD0.self (sz := s.heap.size)
  clear hD0 hNw
  generalize hAe : va_A ([(SO, .inr (11, oX11 PL DR TA RE FL RO HU ME TR NI)), (PL, .inr (5, oX5 FO aPL PL_rooms PL_doors PL_things PL_draw PL_drawTold)), (ME, .inr (3, oX3 FL aME ME_oldest ME_done ME_undone)), ((aME 1), .inl (cI, 32, .inl ME_now)), ((aME 3), .inl (cG, 41, .inr (.inr (.inr (.inr ME_kept)))))] ++ rw41 cI KRr KRf) s.heap.size = A at hD ⊢
  have hA : ∀ q : Nat, s.heap.size ≤ q → A q := fun q h => by rw [← hAe]; exact Or.inr h
  have hS : va_S A s.heap s.heap [] := va_S.rf
  clear hAe
  obtain ⟨H, hH⟩ : ∃ H : Heap, H = s.heap := ⟨_, rfl⟩
  obtain ⟨locs, hlocs⟩ : ∃ L : List Loc, L = [] := ⟨_, rfl⟩
  replace hP : va_P D classes ([(SO, .inr (11, oX11 PL DR TA RE FL RO HU ME TR NI)), (PL, .inr (5, oX5 FO aPL PL_rooms PL_doors PL_things PL_draw PL_drawTold)), (ME, .inr (3, oX3 FL aME ME_oldest ME_done ME_undone)), ((aME 1), .inl (cI, 32, .inl ME_now)), ((aME 3), .inl (cG, 41, .inr (.inr (.inr (.inr ME_kept)))))] ++ rw41 cI KRr KRf) H := by rw [hH]; exact hP
  replace hS : va_S A s.heap H locs := by rw [hH, hlocs]; exact hS
  rw [← hH, ← hlocs]
  clear hlocs hH
  have hl := lv_entry ([.ref SO, .int x0]) (n := 2) (Nat.le_of_ble_eq_true rfl)
  rw [lg_entry_eq]
  generalize (lg_sl ([.ref SO, .int x0]) ++ List.replicate (2 - (lg_sl ([.ref SO, .int x0])).length) Slot.unset).toArray = ls at hl ⊢
  replace hl : lv_has ls 2 [(0, .ref SO), (1, .int x0)] := hl
  refine lv_aload_n hx hb dX11_hear_0 rfl (lv_at hl 0 rfl) ?_
  refine lv_iload_n hx hb dX11_hear_1 rfl (lv_at hl 1 rfl) ?_
  have hPc := hP.sub (ws' := [(SO, .inr (11, oX11 PL DR TA RE FL RO HU ME TR NI)), (PL, .inr (5, oX5 FO aPL PL_rooms PL_doors PL_things PL_draw PL_drawTold))]) [0, 1] rfl
  refine vp_callSi (va_runV (As := [.int x0]) (rest := []) ⟨hx, hb, hml, hown, hts⟩ (c_X11_isThing l D cI cB cL cZ cG SO x0 PL DR TA RE FL RO HU ME TR NI PL_rooms aPL PL_doors PL_things FO PL_draw PL_drawTold b_PL_rooms b_PL_doors b_PL_things) (cwV 1 hts gX11_hear_X11_isThing rfl rfl rfl (by decide +kernel) ⟨Nat.le_of_ble_eq_true rfl, Nat.le_of_ble_eq_true rfl⟩) ⟨xr_blind, va_recv hK hP (ci := 11) (q0 := 0) rfl rfl, fun U hU hW => xr_mk hU hW hPc hK⟩ rfl rfl hl.1 rfl (lv_room (Nat.le_of_ble_eq_true rfl)) dX11_hear_2 ⟨Nat.le_of_ble_eq_true rfl, Nat.le_of_ble_eq_true rfl⟩).run (fun r2 hr2 => ?_)
  clear hPc
  rcases hr2 with rfl | ⟨rfl, hr2_1_0⟩
  · refine lv_if_ne (tgt := 10) hx hb dX11_hear_5 (by decide) (fun c5 => absurd (by decide) c5) (fun _ => ?_)
    refine lv_iconst (v := (-1)) hx hb dX11_hear_8 (by decide) ?_
    exact W.iret (v := (-1)) hx hb hr (fun t ht hW => ⟨⟨(-1), (), rfl, (zB_w (show zB (-1) (-1) (-1) from ⟨by decide, by decide⟩) (by decide) (by decide)), ⟨ME_oldest, ME_done, ME_undone, ME_now, KRf, b_ME_oldest, b_ME_done, b_ME_undone, s_ME_now_0, w_KR, q_ME, by rw [ht]; exact hP, hD⟩⟩, hS.F ht⟩) hS.2.2 dX11_hear_9
  · refine lv_if_ne (tgt := 10) hx hb dX11_hear_5 (by decide) (fun _ => ?_) (fun c5 => absurd c5 (by decide))
    refine lv_aload_n hx hb dX11_hear_10 rfl (lv_at hl 0 rfl) ?_
    refine va_get (D := D) (ci := 11) (v := .ref ME) (C := RX11) (T := TX11) (N := 10) hx hb hts iw_X11_hear_X11 hown hK hP 0 rfl rfl 7 (by decide) (hts (.fieldLink RX11 63 "SoldHouse" "memory" "LSoldHouse$Memory;") (List.mem_of_getElem? (i := 1) rfl)) (fun _ h9 => h9) rfl dX11_hear_11 ?_
    refine lv_iload_n hx hb dX11_hear_14 rfl (lv_at hl 1 rfl) ?_
    refine lv_iconst (v := 1) hx hb dX11_hear_15 (by decide) ?_
    have hPc := hP.sub (ws' := [(ME, .inr (3, oX3 FL aME ME_oldest ME_done ME_undone)), ((aME 1), .inl (cI, 32, .inl ME_now))]) [2, 3] rfl
    have hDc := hD.sub (ws' := [(ME, .inr (3, oX3 FL aME ME_oldest ME_done ME_undone)), ((aME 1), .inl (cI, 32, .inl ME_now))]) [2, 3] (by decide) rfl
    have hFc := va_free (wc := [(ME, .inr (3, oX3 FL aME ME_oldest ME_done ME_undone)), ((aME 1), .inl (cI, 32, .inl ME_now))]) hD hS hA [2, 3] rfl
    refine va_callv (va_runV (As := [.int x0, .int 1]) (rest := []) ⟨hx, hb, hml, hown, hts⟩ (c_X3_speak l D cI cB cL cZ cG ME x0 1 FL aME ME_oldest ME_done ME_undone ME_now H.size hr2_1_0 b_ME_oldest b_ME_done b_ME_undone s_ME_now_0) (cwV 2 hts gX11_hear_X3_speak rfl rfl rfl (by decide +kernel) ⟨Nat.le_of_ble_eq_true rfl, Nat.le_of_ble_eq_true rfl⟩) ⟨xp_blind, va_recv hK hP (ci := 3) (q0 := 2) rfl rfl, fun U hU hW => xp_mk hU hW hPc hK hDc xNw_nil⟩ rfl rfl hl.1 rfl (lv_room (Nat.le_of_ble_eq_true rfl)) dX11_hear_16 ⟨Nat.le_of_ble_eq_true rfl, Nat.le_of_ble_eq_true rfl⟩) hS (fun q _ h => hFc q h) hFc (fun u9 t9 H1 locs ht9 hvm9 hr16 hB9 hz9 hk9 hS => ?_)
    obtain ⟨o16_nMEnow, so16_nMEnow_0, hP1, hD1⟩ := hB9
    rw [ht9] at hP1
    obtain ⟨hP, hD⟩ := va_join (wr := ([(SO, .inr (11, oX11 PL DR TA RE FL RO HU ME TR NI)), (PL, .inr (5, oX5 FO aPL PL_rooms PL_doors PL_things PL_draw PL_drawTold)), ((aME 3), .inl (cG, 41, .inr (.inr (.inr (.inr ME_kept)))))] ++ rw41 cI KRr KRf)) (w1 := [(ME, .inr (3, oX3 FL aME ME_oldest ME_done ME_undone)), ((aME 1), .inl (cI, 32, .inl o16_nMEnow))]) hP hD [2, 3] [0, 1, 4, 5, 6, 7, 8, 9, 10, 11, 12, 13, 14, 15, 16, 17, 18, 19, 20, 21, 22, 23, 24, 25, 26, 27, 28, 29, 30, 31, 32, 33, 34, 35, 36, 37, 38, 39, 40, 41, 42, 43, 44, 45] rfl rfl (by decide) (by decide) hk9 hFc hP1 hD1
    clear hz9 hPc hDc hP1 hD1 hk9 hFc ht9 hvm9 u9 t9
    generalize H1 = H at hP hS ⊢
    replace hP : va_P D classes ([(SO, .inr (11, oX11 PL DR TA RE FL RO HU ME TR NI)), (PL, .inr (5, oX5 FO aPL PL_rooms PL_doors PL_things PL_draw PL_drawTold)), (ME, .inr (3, oX3 FL aME ME_oldest ME_done ME_undone)), ((aME 1), .inl (cI, 32, .inl o16_nMEnow)), ((aME 3), .inl (cG, 41, .inr (.inr (.inr (.inr ME_kept)))))] ++ rw41 cI KRr KRf) H := hP.sub [0, 1, 44, 45, 2, 3, 4, 5, 6, 7, 8, 9, 10, 11, 12, 13, 14, 15, 16, 17, 18, 19, 20, 21, 22, 23, 24, 25, 26, 27, 28, 29, 30, 31, 32, 33, 34, 35, 36, 37, 38, 39, 40, 41, 42, 43] rfl
    replace hD : va_D A ([(SO, .inr (11, oX11 PL DR TA RE FL RO HU ME TR NI)), (PL, .inr (5, oX5 FO aPL PL_rooms PL_doors PL_things PL_draw PL_drawTold)), (ME, .inr (3, oX3 FL aME ME_oldest ME_done ME_undone)), ((aME 1), .inl (cI, 32, .inl o16_nMEnow)), ((aME 3), .inl (cG, 41, .inr (.inr (.inr (.inr ME_kept)))))] ++ rw41 cI KRr KRf) := hD.sub [0, 1, 44, 45, 2, 3, 4, 5, 6, 7, 8, 9, 10, 11, 12, 13, 14, 15, 16, 17, 18, 19, 20, 21, 22, 23, 24, 25, 26, 27, 28, 29, 30, 31, 32, 33, 34, 35, 36, 37, 38, 39, 40, 41, 42, 43] (by decide) rfl
    refine lv_aload_n hx hb dX11_hear_19 rfl (lv_at hl 0 rfl) ?_
    refine va_get (D := D) (ci := 11) (v := .ref ME) (C := RX11) (T := TX11) (N := 10) hx hb hts iw_X11_hear_X11 hown hK hP 0 rfl rfl 7 (by decide) (hts (.fieldLink RX11 63 "SoldHouse" "memory" "LSoldHouse$Memory;") (List.mem_of_getElem? (i := 1) rfl)) (fun _ h9 => h9) rfl dX11_hear_20 ?_
    refine va_get (D := D) (ci := 3) (v := .ref (aME 1)) (C := RX3) (T := TX3) (N := 9) hx hb hts iw_X11_hear_X3 hown hK hP 2 rfl rfl 1 (by decide) (hts (.fieldLink RX11 128 "SoldHouse$Memory" "now" "[I") (List.mem_of_getElem? (i := 2) rfl)) (fun _ h9 => h9) rfl dX11_hear_23 ?_
    refine lv_bipush (v := 6) hx hb dX11_hear_26 (by decide) ?_
    refine lv_iload_n hx hb dX11_hear_28 rfl (lv_at hl 1 rfl) ?_
    refine lv_iadd hx hb dX11_hear_29 ?_
    refine zi_top (a := 6) (b := 11) (zB_add (show zB 6 6 6 from ⟨by decide, by decide⟩) hr2_1_0 (by decide) (by decide) (by decide) (by decide)) (fun y29 by29 => ?_)
    refine lv_aload_n hx hb dX11_hear_30 rfl (lv_at hl 0 rfl) ?_
    refine va_get (D := D) (ci := 11) (v := .ref ME) (C := RX11) (T := TX11) (N := 10) hx hb hts iw_X11_hear_X11 hown hK hP 0 rfl rfl 7 (by decide) (hts (.fieldLink RX11 63 "SoldHouse" "memory" "LSoldHouse$Memory;") (List.mem_of_getElem? (i := 1) rfl)) (fun _ h9 => h9) rfl dX11_hear_31 ?_
    refine va_get (D := D) (ci := 3) (v := .ref (aME 1)) (C := RX3) (T := TX3) (N := 9) hx hb hts iw_X11_hear_X3 hown hK hP 2 rfl rfl 1 (by decide) (hts (.fieldLink RX11 128 "SoldHouse$Memory" "now" "[I") (List.mem_of_getElem? (i := 2) rfl)) (fun _ h9 => h9) rfl dX11_hear_34 ?_
    refine lv_iconst (v := 0) hx hb dX11_hear_37 (by decide) ?_
    refine lv_iload_n hx hb dX11_hear_38 rfl (lv_at hl 1 rfl) ?_
    refine lv_iadd hx hb dX11_hear_39 ?_
    refine zi_top (a := 0) (b := 5) (zB_add (show zB 0 0 0 from ⟨by decide, by decide⟩) hr2_1_0 (by decide) (by decide) (by decide) (by decide)) (fun y39 by39 => ?_)
    refine va_iald hx hb hK hP 3 0 rfl rfl (zB_in by39 (by decide) (by decide)) dX11_hear_40 ?_
    refine zi_top (a := 0) (b := 7) (zA_at so16_nMEnow_0 by39 (by decide) (by decide)) (fun y40 by40 => ?_)
    refine zi_iast hx hb hK hP hD hS 3 0 rfl rfl (zB_in by29 (by decide) (by decide)) dX11_hear_41 (fun H locs g41 eg41 hP hD hS => ?_)
    replace hP : va_P D classes ([(SO, .inr (11, oX11 PL DR TA RE FL RO HU ME TR NI)), (PL, .inr (5, oX5 FO aPL PL_rooms PL_doors PL_things PL_draw PL_drawTold)), (ME, .inr (3, oX3 FL aME ME_oldest ME_done ME_undone)), ((aME 1), .inl (cI, 32, .inl g41)), ((aME 3), .inl (cG, 41, .inr (.inr (.inr (.inr ME_kept)))))] ++ rw41 cI KRr KRf) H := hP
    replace hD : va_D A ([(SO, .inr (11, oX11 PL DR TA RE FL RO HU ME TR NI)), (PL, .inr (5, oX5 FO aPL PL_rooms PL_doors PL_things PL_draw PL_drawTold)), (ME, .inr (3, oX3 FL aME ME_oldest ME_done ME_undone)), ((aME 1), .inl (cI, 32, .inl g41)), ((aME 3), .inl (cG, 41, .inr (.inr (.inr (.inr ME_kept)))))] ++ rw41 cI KRr KRf) := hD
    have sg41_0 := zA_up eg41 so16_nMEnow_0 by40 (by decide) (by decide)
    clear eg41
    refine lv_aload_n hx hb dX11_hear_42 rfl (lv_at hl 0 rfl) ?_
    refine va_get (D := D) (ci := 11) (v := .ref ME) (C := RX11) (T := TX11) (N := 10) hx hb hts iw_X11_hear_X11 hown hK hP 0 rfl rfl 7 (by decide) (hts (.fieldLink RX11 63 "SoldHouse" "memory" "LSoldHouse$Memory;") (List.mem_of_getElem? (i := 1) rfl)) (fun _ h9 => h9) rfl dX11_hear_43 ?_
    have hPc := hP.sub (ws' := ([(ME, .inr (3, oX3 FL aME ME_oldest ME_done ME_undone)), ((aME 3), .inl (cG, 41, .inr (.inr (.inr (.inr ME_kept))))), ((aME 1), .inl (cI, 32, .inl g41))] ++ rw41 cI KRr KRf)) [2, 4, 3, 5, 6, 7, 8, 9, 10, 11, 12, 13, 14, 15, 16, 17, 18, 19, 20, 21, 22, 23, 24, 25, 26, 27, 28, 29, 30, 31, 32, 33, 34, 35, 36, 37, 38, 39, 40, 41, 42, 43, 44, 45] rfl
    have hDc := hD.sub (ws' := ([(ME, .inr (3, oX3 FL aME ME_oldest ME_done ME_undone)), ((aME 3), .inl (cG, 41, .inr (.inr (.inr (.inr ME_kept))))), ((aME 1), .inl (cI, 32, .inl g41))] ++ rw41 cI KRr KRf)) [2, 4, 3, 5, 6, 7, 8, 9, 10, 11, 12, 13, 14, 15, 16, 17, 18, 19, 20, 21, 22, 23, 24, 25, 26, 27, 28, 29, 30, 31, 32, 33, 34, 35, 36, 37, 38, 39, 40, 41, 42, 43, 44, 45] (by decide) rfl
    have hFc := va_free (wc := ([(ME, .inr (3, oX3 FL aME ME_oldest ME_done ME_undone)), ((aME 3), .inl (cG, 41, .inr (.inr (.inr (.inr ME_kept))))), ((aME 1), .inl (cI, 32, .inl g41))] ++ rw41 cI KRr KRf)) hD hS hA [2, 4, 3, 5, 6, 7, 8, 9, 10, 11, 12, 13, 14, 15, 16, 17, 18, 19, 20, 21, 22, 23, 24, 25, 26, 27, 28, 29, 30, 31, 32, 33, 34, 35, 36, 37, 38, 39, 40, 41, 42, 43, 44, 45] rfl
    refine va_callv (va_runV (As := []) (rest := []) ⟨hx, hb, hml, hown, hts⟩ (c_X3_keepAct l D cI cB cL cZ cG ME FL aME ME_oldest ME_done ME_undone ME_kept KRr g41 KRf H.size b_ME_oldest b_ME_done b_ME_undone k_ME_kept sg41_0 w_KR) (cwV 0 hts gX11_hear_X3_keepAct rfl rfl rfl (by decide +kernel) ⟨Nat.le_of_ble_eq_true rfl, Nat.le_of_ble_eq_true rfl⟩) ⟨xp_blind, va_recv hK hP (ci := 3) (q0 := 2) rfl rfl, fun U hU hW => xp_mk hU hW hPc hK hDc xNw_nil⟩ rfl rfl hl.1 rfl (lv_room (Nat.le_of_ble_eq_true rfl)) dX11_hear_46 ⟨Nat.le_of_ble_eq_true rfl, Nat.le_of_ble_eq_true rfl⟩) hS (fun q _ h => hFc q h) hFc (fun u9 t9 H1 locs ht9 hvm9 hr46 hB9 hz9 hk9 hS => ?_)
    obtain ⟨o46_nME_oldest, o46_nME_done, o46_nME_undone, o46_nKRf, bo46_nME_oldest, bo46_nME_done, bo46_nME_undone, wo46_nKRf, hP1, hD1⟩ := hB9
    rw [ht9] at hP1
    obtain ⟨hP, hD⟩ := va_join (wr := [(SO, .inr (11, oX11 PL DR TA RE FL RO HU ME TR NI)), (PL, .inr (5, oX5 FO aPL PL_rooms PL_doors PL_things PL_draw PL_drawTold))]) (w1 := ([(ME, .inr (3, oX3 FL aME o46_nME_oldest o46_nME_done o46_nME_undone)), ((aME 3), .inl (cG, 41, .inr (.inr (.inr (.inr ME_kept))))), ((aME 1), .inl (cI, 32, .inl g41))] ++ rw41 cI KRr o46_nKRf)) hP hD [2, 4, 3, 5, 6, 7, 8, 9, 10, 11, 12, 13, 14, 15, 16, 17, 18, 19, 20, 21, 22, 23, 24, 25, 26, 27, 28, 29, 30, 31, 32, 33, 34, 35, 36, 37, 38, 39, 40, 41, 42, 43, 44, 45] [0, 1] rfl rfl (by decide) (by decide) hk9 hFc hP1 hD1
    clear hz9 hPc hDc hP1 hD1 hk9 hFc ht9 hvm9 u9 t9
    generalize H1 = H at hP hS ⊢
    replace hP : va_P D classes ([(SO, .inr (11, oX11 PL DR TA RE FL RO HU ME TR NI)), (PL, .inr (5, oX5 FO aPL PL_rooms PL_doors PL_things PL_draw PL_drawTold)), (ME, .inr (3, oX3 FL aME o46_nME_oldest o46_nME_done o46_nME_undone)), ((aME 1), .inl (cI, 32, .inl g41)), ((aME 3), .inl (cG, 41, .inr (.inr (.inr (.inr ME_kept)))))] ++ rw41 cI KRr o46_nKRf) H := hP.sub [0, 1, 2, 4, 3, 5, 6, 7, 8, 9, 10, 11, 12, 13, 14, 15, 16, 17, 18, 19, 20, 21, 22, 23, 24, 25, 26, 27, 28, 29, 30, 31, 32, 33, 34, 35, 36, 37, 38, 39, 40, 41, 42, 43, 44, 45] rfl
    replace hD : va_D A ([(SO, .inr (11, oX11 PL DR TA RE FL RO HU ME TR NI)), (PL, .inr (5, oX5 FO aPL PL_rooms PL_doors PL_things PL_draw PL_drawTold)), (ME, .inr (3, oX3 FL aME o46_nME_oldest o46_nME_done o46_nME_undone)), ((aME 1), .inl (cI, 32, .inl g41)), ((aME 3), .inl (cG, 41, .inr (.inr (.inr (.inr ME_kept)))))] ++ rw41 cI KRr o46_nKRf) := hD.sub [0, 1, 2, 4, 3, 5, 6, 7, 8, 9, 10, 11, 12, 13, 14, 15, 16, 17, 18, 19, 20, 21, 22, 23, 24, 25, 26, 27, 28, 29, 30, 31, 32, 33, 34, 35, 36, 37, 38, 39, 40, 41, 42, 43, 44, 45] (by decide) rfl
    refine lv_aload_n hx hb dX11_hear_49 rfl (lv_at hl 0 rfl) ?_
    refine va_get (D := D) (ci := 11) (v := .ref ME) (C := RX11) (T := TX11) (N := 10) hx hb hts iw_X11_hear_X11 hown hK hP 0 rfl rfl 7 (by decide) (hts (.fieldLink RX11 63 "SoldHouse" "memory" "LSoldHouse$Memory;") (List.mem_of_getElem? (i := 1) rfl)) (fun _ h9 => h9) rfl dX11_hear_50 ?_
    refine va_get (D := D) (ci := 3) (v := .ref (aME 1)) (C := RX3) (T := TX3) (N := 9) hx hb hts iw_X11_hear_X3 hown hK hP 2 rfl rfl 1 (by decide) (hts (.fieldLink RX11 128 "SoldHouse$Memory" "now" "[I") (List.mem_of_getElem? (i := 2) rfl)) (fun _ h9 => h9) rfl dX11_hear_53 ?_
    refine lv_iconst (v := 0) hx hb dX11_hear_56 (by decide) ?_
    refine lv_iload_n hx hb dX11_hear_57 rfl (lv_at hl 1 rfl) ?_
    refine lv_iadd hx hb dX11_hear_58 ?_
    refine zi_top (a := 0) (b := 5) (zB_add (show zB 0 0 0 from ⟨by decide, by decide⟩) hr2_1_0 (by decide) (by decide) (by decide) (by decide)) (fun y58 by58 => ?_)
    refine va_iald hx hb hK hP 3 0 rfl rfl (zB_in by58 (by decide) (by decide)) dX11_hear_59 ?_
    refine zi_top (a := 0) (b := 7) (zA_at sg41_0 by58 (by decide) (by decide)) (fun y59 by59 => ?_)
    exact W.iret (v := y59) hx hb hr (fun t ht hW => ⟨⟨y59, (), rfl, (zB_w by59 (by decide) (by decide)), ⟨o46_nME_oldest, o46_nME_done, o46_nME_undone, g41, o46_nKRf, bo46_nME_oldest, (zB_w bo46_nME_done (by decide) (by decide)), (zB_w bo46_nME_undone (by decide) (by decide)), sg41_0, wo46_nKRf, (by have h9_0 := (bo46_nME_done).1; have h9_1 := (bo46_nME_done).2; have h9_2 := (bo46_nME_undone).1; have h9_3 := (bo46_nME_undone).2; have h9_4 := q_ME; omega), by rw [ht]; exact hP, hD⟩⟩, hS.F ht⟩) hS.2.2 dX11_hear_60
set_option maxHeartbeats 4000000 in
set_option maxRecDepth 100000 in
theorem c_X11_carry (l : Launch) (D : va_G) (cI : ClassId) (cB : ClassId) (cL : ClassId) (cZ : ClassId) (cG : ClassId) (SO : Nat) (x0 : Int32) (x1 : Int32) (PL : Nat) (DR : Nat) (TA : Nat) (RE : Nat) (FL : Nat) (RO : Nat) (HU : Nat) (ME : Nat) (TR : Nat) (NI : Nat) (PL_rooms : Int32) (aPL : Nat → Nat) (PL_doors : Int32) (PL_things : Int32) (FO : Nat) (PL_draw : Int32) (PL_drawTold : Int32) (aME : Nat → Nat) (ME_oldest : Int32) (ME_done : Int32) (ME_undone : Int32) (ME_now : Nat → Int32) (PL_doorFrom : Nat → Int32) (PL_doorTo : Nat → Int32) (ME_kept : Nat → Option Nat) (KRr : Nat → Nat) (KRf : Nat → Nat → Int32) (sz : Nat) (q_ME : ME_done.toInt + ME_undone.toInt ≤ 40) (b_PL_rooms : zB PL_rooms 0 8) (b_PL_doors : zB PL_doors 0 12) (b_PL_things : zB PL_things 0 6) (b_ME_oldest : zB ME_oldest 0 40) (b_ME_done : zB ME_done 0 40) (b_ME_undone : zB ME_undone 0 40) (s_ME_now_0 : zA ME_now 0 12 0 7) (s_PL_doorFrom_0 : zA PL_doorFrom 0 12 0 7) (s_PL_doorTo_0 : zA PL_doorTo 0 12 0 7) (k_ME_kept : ∀ j, j < 41 → ME_kept j = some (KRr j)) (w_KR : ∀ j, j < 41 → zA (KRf j) 0 12 0 7) : Met l yX11_carry wsX11_carry ({ frames := 2, cells := 0, slots := 0, locals := 60 }) (xp D [(cI, .int), (cB, .byte), (cL, .long), (cZ, .boolean), (cG, .array .int)] ([(SO, .inr (11, oX11 PL DR TA RE FL RO HU ME TR NI)), (PL, .inr (5, oX5 FO aPL PL_rooms PL_doors PL_things PL_draw PL_drawTold)), (ME, .inr (3, oX3 FL aME ME_oldest ME_done ME_undone)), ((aME 1), .inl (cI, 32, .inl ME_now)), ((aPL 4), .inl (cI, 12, .inl PL_doorFrom)), ((aPL 5), .inl (cI, 12, .inl PL_doorTo)), ((aME 3), .inl (cG, 41, .inr (.inr (.inr (.inr ME_kept)))))] ++ rw41 cI KRr KRf) sz [] [.ref SO, .int x0, .int x1]) (va_Qi (fun (r : Int32) (_ : Unit) => zB r (-1) 7) (fun (_ : Unit) (t : State) => ∃ (nME_oldest : Int32), ∃ (nME_done : Int32), ∃ (nME_undone : Int32), ∃ (nMEnow : Nat → Int32), ∃ (nKRf : Nat → Nat → Int32), zB nME_oldest 0 40 ∧ zB nME_done 0 40 ∧ zB nME_undone 0 40 ∧ zA nMEnow 0 12 0 7 ∧ (∀ j, j < 41 → zA (nKRf j) 0 12 0 7) ∧ nME_done.toInt + nME_undone.toInt ≤ 40 ∧ xB D (va_A ([(SO, .inr (11, oX11 PL DR TA RE FL RO HU ME TR NI)), (PL, .inr (5, oX5 FO aPL PL_rooms PL_doors PL_things PL_draw PL_drawTold)), (ME, .inr (3, oX3 FL aME ME_oldest ME_done ME_undone)), ((aME 1), .inl (cI, 32, .inl ME_now)), ((aPL 4), .inl (cI, 12, .inl PL_doorFrom)), ((aPL 5), .inl (cI, 12, .inl PL_doorTo)), ((aME 3), .inl (cG, 41, .inr (.inr (.inr (.inr ME_kept)))))] ++ rw41 cI KRr KRf) sz) ([(SO, .inr (11, oX11 PL DR TA RE FL RO HU ME TR NI)), (PL, .inr (5, oX5 FO aPL PL_rooms PL_doors PL_things PL_draw PL_drawTold)), (ME, .inr (3, oX3 FL aME nME_oldest nME_done nME_undone)), ((aME 1), .inl (cI, 32, .inl nMEnow)), ((aPL 4), .inl (cI, 12, .inl PL_doorFrom)), ((aPL 5), .inl (cI, 12, .inl PL_doorTo)), ((aME 3), .inl (cG, 41, .inr (.inr (.inr (.inr ME_kept)))))] ++ rw41 cI KRr nKRf) t) (va_A ([(SO, .inr (11, oX11 PL DR TA RE FL RO HU ME TR NI)), (PL, .inr (5, oX5 FO aPL PL_rooms PL_doors PL_things PL_draw PL_drawTold)), (ME, .inr (3, oX3 FL aME ME_oldest ME_done ME_undone)), ((aME 1), .inl (cI, 32, .inl ME_now)), ((aPL 4), .inl (cI, 12, .inl PL_doorFrom)), ((aPL 5), .inl (cI, 12, .inl PL_doorTo)), ((aME 3), .inl (cG, 41, .inr (.inr (.inr (.inr ME_kept)))))] ++ rw41 cI KRr KRf) sz)) 0 0 (va_A ([(SO, .inr (11, oX11 PL DR TA RE FL RO HU ME TR NI)), (PL, .inr (5, oX5 FO aPL PL_rooms PL_doors PL_things PL_draw PL_drawTold)), (ME, .inr (3, oX3 FL aME ME_oldest ME_done ME_undone)), ((aME 1), .inl (cI, 32, .inl ME_now)), ((aPL 4), .inl (cI, 12, .inl PL_doorFrom)), ((aPL 5), .inl (cI, 12, .inl PL_doorTo)), ((aME 3), .inl (cG, 41, .inr (.inr (.inr (.inr ME_kept)))))] ++ rw41 cI KRr KRf) sz) := by
  refine Met.ofW (cc := cX11_carry) (maxL := 4) (ret := (some .int)) (by decide) rfl ?_
  intro p e s m args below meth c s₁ B hml hv
  obtain ⟨rfl, hsz, hP, hK, hD0, hNw⟩ := hv
  have hx := B.exec
  have hb := B.bytes
  have hr := B.returns
  have hts := atoms_spec (ws := wsX11_carry) B.pre
  have hown : s.vm.findClass RX11 = some m.cls := findClass_of_methodNamed B.named
  have hlocks := B.notSynchronized
  clear B
  subst hsz
  have hD := hD0.self (sz := s.heap.size)
  clear hD0 hNw
  generalize hAe : va_A ([(SO, .inr (11, oX11 PL DR TA RE FL RO HU ME TR NI)), (PL, .inr (5, oX5 FO aPL PL_rooms PL_doors PL_things PL_draw PL_drawTold)), (ME, .inr (3, oX3 FL aME ME_oldest ME_done ME_undone)), ((aME 1), .inl (cI, 32, .inl ME_now)), ((aPL 4), .inl (cI, 12, .inl PL_doorFrom)), ((aPL 5), .inl (cI, 12, .inl PL_doorTo)), ((aME 3), .inl (cG, 41, .inr (.inr (.inr (.inr ME_kept)))))] ++ rw41 cI KRr KRf) s.heap.size = A at hD ⊢
  have hA : ∀ q : Nat, s.heap.size ≤ q → A q := fun q h => by rw [← hAe]; exact Or.inr h
  have hS : va_S A s.heap s.heap [] := va_S.rf
  clear hAe
  obtain ⟨H, hH⟩ : ∃ H : Heap, H = s.heap := ⟨_, rfl⟩
  obtain ⟨locs, hlocs⟩ : ∃ L : List Loc, L = [] := ⟨_, rfl⟩
  replace hP : va_P D classes ([(SO, .inr (11, oX11 PL DR TA RE FL RO HU ME TR NI)), (PL, .inr (5, oX5 FO aPL PL_rooms PL_doors PL_things PL_draw PL_drawTold)), (ME, .inr (3, oX3 FL aME ME_oldest ME_done ME_undone)), ((aME 1), .inl (cI, 32, .inl ME_now)), ((aPL 4), .inl (cI, 12, .inl PL_doorFrom)), ((aPL 5), .inl (cI, 12, .inl PL_doorTo)), ((aME 3), .inl (cG, 41, .inr (.inr (.inr (.inr ME_kept)))))] ++ rw41 cI KRr KRf) H := by rw [hH]; exact hP
  replace hS : va_S A s.heap H locs := by rw [hH, hlocs]; exact hS
  rw [← hH, ← hlocs]
  clear hlocs hH
  have hl := lv_entry ([.ref SO, .int x0, .int x1]) (n := 4) (Nat.le_of_ble_eq_true rfl)
  rw [lg_entry_eq]
  generalize (lg_sl ([.ref SO, .int x0, .int x1]) ++ List.replicate (4 - (lg_sl ([.ref SO, .int x0, .int x1])).length) Slot.unset).toArray = ls at hl ⊢
  replace hl : lv_has ls 4 [(0, .ref SO), (1, .int x0), (2, .int x1)] := hl
  refine lv_aload_n hx hb dX11_carry_0 rfl (lv_at hl 0 rfl) ?_
  refine lv_iload_n hx hb dX11_carry_1 rfl (lv_at hl 1 rfl) ?_
  have hPc := hP.sub (ws' := [(SO, .inr (11, oX11 PL DR TA RE FL RO HU ME TR NI)), (PL, .inr (5, oX5 FO aPL PL_rooms PL_doors PL_things PL_draw PL_drawTold))]) [0, 1] rfl
  refine vp_callSi (va_runV (As := [.int x0]) (rest := []) ⟨hx, hb, hml, hown, hts⟩ (c_X11_isThing l D cI cB cL cZ cG SO x0 PL DR TA RE FL RO HU ME TR NI PL_rooms aPL PL_doors PL_things FO PL_draw PL_drawTold b_PL_rooms b_PL_doors b_PL_things) (cwV 1 hts gX11_carry_X11_isThing rfl rfl rfl (by decide +kernel) ⟨Nat.le_of_ble_eq_true rfl, Nat.le_of_ble_eq_true rfl⟩) ⟨xr_blind, va_recv hK hP (ci := 11) (q0 := 0) rfl rfl, fun U hU hW => xr_mk hU hW hPc hK⟩ rfl rfl hl.1 rfl (lv_room (Nat.le_of_ble_eq_true rfl)) dX11_carry_2 ⟨Nat.le_of_ble_eq_true rfl, Nat.le_of_ble_eq_true rfl⟩).run (fun r2 hr2 => ?_)
  clear hPc
  rcases hr2 with rfl | ⟨rfl, hr2_1_0⟩
  · refine lv_if_eq (tgt := 16) hx hb dX11_carry_5 (by decide) (fun _ => ?_) (fun c5 => absurd (by decide) c5)
    refine lv_iconst (v := (-1)) hx hb dX11_carry_16 (by decide) ?_
    exact W.iret (v := (-1)) hx hb hr (fun t ht hW => ⟨⟨(-1), (), rfl, (zB_w (show zB (-1) (-1) (-1) from ⟨by decide, by decide⟩) (by decide) (by decide)), ⟨ME_oldest, ME_done, ME_undone, ME_now, KRf, b_ME_oldest, b_ME_done, b_ME_undone, s_ME_now_0, w_KR, q_ME, by rw [ht]; exact hP, hD⟩⟩, hS.F ht⟩) hS.2.2 dX11_carry_17
  · refine lv_if_eq (tgt := 16) hx hb dX11_carry_5 (by decide) (fun c5 => absurd c5 (by decide)) (fun _ => ?_)
    refine lv_aload_n hx hb dX11_carry_8 rfl (lv_at hl 0 rfl) ?_
    refine lv_iload_n hx hb dX11_carry_9 rfl (lv_at hl 2 rfl) ?_
    have hPc := hP.sub (ws' := [(SO, .inr (11, oX11 PL DR TA RE FL RO HU ME TR NI)), (PL, .inr (5, oX5 FO aPL PL_rooms PL_doors PL_things PL_draw PL_drawTold))]) [0, 1] rfl
    refine vp_callSi (va_runV (As := [.int x1]) (rest := []) ⟨hx, hb, hml, hown, hts⟩ (c_X11_isDoor l D cI cB cL cZ cG SO x1 PL DR TA RE FL RO HU ME TR NI PL_rooms aPL PL_doors PL_things FO PL_draw PL_drawTold b_PL_rooms b_PL_doors b_PL_things) (cwV 1 hts gX11_carry_X11_isDoor rfl rfl rfl (by decide +kernel) ⟨Nat.le_of_ble_eq_true rfl, Nat.le_of_ble_eq_true rfl⟩) ⟨xr_blind, va_recv hK hP (ci := 11) (q0 := 0) rfl rfl, fun U hU hW => xr_mk hU hW hPc hK⟩ rfl rfl hl.1 rfl (lv_room (Nat.le_of_ble_eq_true rfl)) dX11_carry_10 ⟨Nat.le_of_ble_eq_true rfl, Nat.le_of_ble_eq_true rfl⟩).run (fun r10 hr10 => ?_)
    clear hPc
    rcases hr10 with rfl | ⟨rfl, hr10_1_0⟩
    · refine lv_if_ne (tgt := 18) hx hb dX11_carry_13 (by decide) (fun c13 => absurd (by decide) c13) (fun _ => ?_)
      refine lv_iconst (v := (-1)) hx hb dX11_carry_16 (by decide) ?_
      exact W.iret (v := (-1)) hx hb hr (fun t ht hW => ⟨⟨(-1), (), rfl, (zB_w (show zB (-1) (-1) (-1) from ⟨by decide, by decide⟩) (by decide) (by decide)), ⟨ME_oldest, ME_done, ME_undone, ME_now, KRf, b_ME_oldest, b_ME_done, b_ME_undone, s_ME_now_0, w_KR, q_ME, by rw [ht]; exact hP, hD⟩⟩, hS.F ht⟩) hS.2.2 dX11_carry_17
    · refine lv_if_ne (tgt := 18) hx hb dX11_carry_13 (by decide) (fun _ => ?_) (fun c13 => absurd c13 (by decide))
      refine lv_aload_n hx hb dX11_carry_18 rfl (lv_at hl 0 rfl) ?_
      refine va_get (D := D) (ci := 11) (v := .ref PL) (C := RX11) (T := TX11) (N := 10) hx hb hts iw_X11_carry_X11 hown hK hP 0 rfl rfl 0 (by decide) (hts (.fieldLink RX11 10 "SoldHouse" "plan" "LSoldHouse$Plan;") (List.mem_of_getElem? (i := 1) rfl)) (fun _ h9 => h9) rfl dX11_carry_19 ?_
      refine lv_iload_n hx hb dX11_carry_22 rfl (lv_at hl 2 rfl) ?_
      refine lv_aload_n hx hb dX11_carry_23 rfl (lv_at hl 0 rfl) ?_
      refine va_get (D := D) (ci := 11) (v := .ref ME) (C := RX11) (T := TX11) (N := 10) hx hb hts iw_X11_carry_X11 hown hK hP 0 rfl rfl 7 (by decide) (hts (.fieldLink RX11 63 "SoldHouse" "memory" "LSoldHouse$Memory;") (List.mem_of_getElem? (i := 2) rfl)) (fun _ h9 => h9) rfl dX11_carry_24 ?_
      refine va_get (D := D) (ci := 3) (v := .ref (aME 1)) (C := RX3) (T := TX3) (N := 9) hx hb hts iw_X11_carry_X3 hown hK hP 2 rfl rfl 1 (by decide) (hts (.fieldLink RX11 128 "SoldHouse$Memory" "now" "[I") (List.mem_of_getElem? (i := 3) rfl)) (fun _ h9 => h9) rfl dX11_carry_27 ?_
      refine lv_iconst (v := 0) hx hb dX11_carry_30 (by decide) ?_
      refine lv_iload_n hx hb dX11_carry_31 rfl (lv_at hl 1 rfl) ?_
      refine lv_iadd hx hb dX11_carry_32 ?_
      refine zi_top (a := 0) (b := 5) (zB_add (show zB 0 0 0 from ⟨by decide, by decide⟩) hr2_1_0 (by decide) (by decide) (by decide) (by decide)) (fun y32 by32 => ?_)
      refine va_iald hx hb hK hP 3 0 rfl rfl (zB_in by32 (by decide) (by decide)) dX11_carry_33 ?_
      refine zi_top (a := 0) (b := 7) (zA_at s_ME_now_0 by32 (by decide) (by decide)) (fun y33 by33 => ?_)
      have hPc := hP.sub (ws' := [(PL, .inr (5, oX5 FO aPL PL_rooms PL_doors PL_things PL_draw PL_drawTold)), ((aPL 4), .inl (cI, 12, .inl PL_doorFrom)), ((aPL 5), .inl (cI, 12, .inl PL_doorTo))]) [1, 4, 5] rfl
      refine vp_callSi (va_runV (As := [.int x1, .int y33]) (rest := []) ⟨hx, hb, hml, hown, hts⟩ (c_X5_behind l D cI cB cL cZ cG PL x1 y33 PL_rooms aPL PL_doors PL_things FO PL_draw PL_drawTold PL_doorFrom PL_doorTo hr10_1_0 b_PL_rooms b_PL_doors b_PL_things s_PL_doorFrom_0 s_PL_doorTo_0) (cwV 2 hts gX11_carry_X5_behind rfl rfl rfl (by decide +kernel) ⟨Nat.le_of_ble_eq_true rfl, Nat.le_of_ble_eq_true rfl⟩) ⟨xr_blind, va_recv hK hP (ci := 5) (q0 := 1) rfl rfl, fun U hU hW => xr_mk hU hW hPc hK⟩ rfl rfl hl.1 rfl (lv_room (Nat.le_of_ble_eq_true rfl)) dX11_carry_34 ⟨Nat.le_of_ble_eq_true rfl, Nat.le_of_ble_eq_true rfl⟩).run (fun r34 hr34 => ?_)
      clear hPc
      refine lv_istore_n (lv' := [(3, .int r34), (0, .ref SO), (1, .int x0), (2, .int x1)]) hx hb dX11_carry_37 rfl hl (by decide) rfl (fun ls hl => ?_)
      refine lv_iload_n hx hb dX11_carry_38 rfl (lv_at hl 0 rfl) ?_
      refine lv_iconst (v := (-1)) hx hb dX11_carry_39 (by decide) ?_
      refine lv_icmp_ne (tgt := 45) hx hb dX11_carry_40 (by decide) (fun c40 => ?_) (fun c40 => ?_)
      · have bn40t_r34 : zB r34 0 7 := zB_neL c40 hr34 (show zB (-1) (-1) (-1) from ⟨by decide, by decide⟩) (by decide)
        refine lv_aload_n hx hb dX11_carry_45 rfl (lv_at hl 1 rfl) ?_
        refine va_get (D := D) (ci := 11) (v := .ref ME) (C := RX11) (T := TX11) (N := 10) hx hb hts iw_X11_carry_X11 hown hK hP 0 rfl rfl 7 (by decide) (hts (.fieldLink RX11 63 "SoldHouse" "memory" "LSoldHouse$Memory;") (List.mem_of_getElem? (i := 2) rfl)) (fun _ h9 => h9) rfl dX11_carry_46 ?_
        refine lv_iload_n hx hb dX11_carry_49 rfl (lv_at hl 2 rfl) ?_
        refine lv_iload_n hx hb dX11_carry_50 rfl (lv_at hl 0 rfl) ?_
        have hPc := hP.sub (ws' := [(ME, .inr (3, oX3 FL aME ME_oldest ME_done ME_undone)), ((aME 1), .inl (cI, 32, .inl ME_now))]) [2, 3] rfl
        have hDc := hD.sub (ws' := [(ME, .inr (3, oX3 FL aME ME_oldest ME_done ME_undone)), ((aME 1), .inl (cI, 32, .inl ME_now))]) [2, 3] (by decide) rfl
        have hFc := va_free (wc := [(ME, .inr (3, oX3 FL aME ME_oldest ME_done ME_undone)), ((aME 1), .inl (cI, 32, .inl ME_now))]) hD hS hA [2, 3] rfl
        refine va_callv (va_runV (As := [.int x0, .int r34]) (rest := []) ⟨hx, hb, hml, hown, hts⟩ (c_X3_bring l D cI cB cL cZ cG ME x0 r34 FL aME ME_oldest ME_done ME_undone ME_now H.size hr2_1_0 bn40t_r34 b_ME_oldest b_ME_done b_ME_undone s_ME_now_0) (cwV 2 hts gX11_carry_X3_bring rfl rfl rfl (by decide +kernel) ⟨Nat.le_of_ble_eq_true rfl, Nat.le_of_ble_eq_true rfl⟩) ⟨xp_blind, va_recv hK hP (ci := 3) (q0 := 2) rfl rfl, fun U hU hW => xp_mk hU hW hPc hK hDc xNw_nil⟩ rfl rfl hl.1 rfl (lv_room (Nat.le_of_ble_eq_true rfl)) dX11_carry_51 ⟨Nat.le_of_ble_eq_true rfl, Nat.le_of_ble_eq_true rfl⟩) hS (fun q _ h => hFc q h) hFc (fun u9 t9 H1 locs ht9 hvm9 hr51 hB9 hz9 hk9 hS => ?_)
        obtain ⟨o51_nMEnow, so51_nMEnow_0, hP1, hD1⟩ := hB9
        rw [ht9] at hP1
        obtain ⟨hP, hD⟩ := va_join (wr := ([(SO, .inr (11, oX11 PL DR TA RE FL RO HU ME TR NI)), (PL, .inr (5, oX5 FO aPL PL_rooms PL_doors PL_things PL_draw PL_drawTold)), ((aPL 4), .inl (cI, 12, .inl PL_doorFrom)), ((aPL 5), .inl (cI, 12, .inl PL_doorTo)), ((aME 3), .inl (cG, 41, .inr (.inr (.inr (.inr ME_kept)))))] ++ rw41 cI KRr KRf)) (w1 := [(ME, .inr (3, oX3 FL aME ME_oldest ME_done ME_undone)), ((aME 1), .inl (cI, 32, .inl o51_nMEnow))]) hP hD [2, 3] [0, 1, 4, 5, 6, 7, 8, 9, 10, 11, 12, 13, 14, 15, 16, 17, 18, 19, 20, 21, 22, 23, 24, 25, 26, 27, 28, 29, 30, 31, 32, 33, 34, 35, 36, 37, 38, 39, 40, 41, 42, 43, 44, 45, 46, 47] rfl rfl (by decide) (by decide) hk9 hFc hP1 hD1
        clear hz9 hPc hDc hP1 hD1 hk9 hFc ht9 hvm9 u9 t9
        generalize H1 = H at hP hS ⊢
        replace hP : va_P D classes ([(SO, .inr (11, oX11 PL DR TA RE FL RO HU ME TR NI)), (PL, .inr (5, oX5 FO aPL PL_rooms PL_doors PL_things PL_draw PL_drawTold)), (ME, .inr (3, oX3 FL aME ME_oldest ME_done ME_undone)), ((aME 1), .inl (cI, 32, .inl o51_nMEnow)), ((aPL 4), .inl (cI, 12, .inl PL_doorFrom)), ((aPL 5), .inl (cI, 12, .inl PL_doorTo)), ((aME 3), .inl (cG, 41, .inr (.inr (.inr (.inr ME_kept)))))] ++ rw41 cI KRr KRf) H := hP.sub [0, 1, 46, 47, 2, 3, 4, 5, 6, 7, 8, 9, 10, 11, 12, 13, 14, 15, 16, 17, 18, 19, 20, 21, 22, 23, 24, 25, 26, 27, 28, 29, 30, 31, 32, 33, 34, 35, 36, 37, 38, 39, 40, 41, 42, 43, 44, 45] rfl
        replace hD : va_D A ([(SO, .inr (11, oX11 PL DR TA RE FL RO HU ME TR NI)), (PL, .inr (5, oX5 FO aPL PL_rooms PL_doors PL_things PL_draw PL_drawTold)), (ME, .inr (3, oX3 FL aME ME_oldest ME_done ME_undone)), ((aME 1), .inl (cI, 32, .inl o51_nMEnow)), ((aPL 4), .inl (cI, 12, .inl PL_doorFrom)), ((aPL 5), .inl (cI, 12, .inl PL_doorTo)), ((aME 3), .inl (cG, 41, .inr (.inr (.inr (.inr ME_kept)))))] ++ rw41 cI KRr KRf) := hD.sub [0, 1, 46, 47, 2, 3, 4, 5, 6, 7, 8, 9, 10, 11, 12, 13, 14, 15, 16, 17, 18, 19, 20, 21, 22, 23, 24, 25, 26, 27, 28, 29, 30, 31, 32, 33, 34, 35, 36, 37, 38, 39, 40, 41, 42, 43, 44, 45] (by decide) rfl
        refine lv_aload_n hx hb dX11_carry_54 rfl (lv_at hl 1 rfl) ?_
        refine va_get (D := D) (ci := 11) (v := .ref ME) (C := RX11) (T := TX11) (N := 10) hx hb hts iw_X11_carry_X11 hown hK hP 0 rfl rfl 7 (by decide) (hts (.fieldLink RX11 63 "SoldHouse" "memory" "LSoldHouse$Memory;") (List.mem_of_getElem? (i := 2) rfl)) (fun _ h9 => h9) rfl dX11_carry_55 ?_
        have hPc := hP.sub (ws' := ([(ME, .inr (3, oX3 FL aME ME_oldest ME_done ME_undone)), ((aME 3), .inl (cG, 41, .inr (.inr (.inr (.inr ME_kept))))), ((aME 1), .inl (cI, 32, .inl o51_nMEnow))] ++ rw41 cI KRr KRf)) [2, 6, 3, 7, 8, 9, 10, 11, 12, 13, 14, 15, 16, 17, 18, 19, 20, 21, 22, 23, 24, 25, 26, 27, 28, 29, 30, 31, 32, 33, 34, 35, 36, 37, 38, 39, 40, 41, 42, 43, 44, 45, 46, 47] rfl
        have hDc := hD.sub (ws' := ([(ME, .inr (3, oX3 FL aME ME_oldest ME_done ME_undone)), ((aME 3), .inl (cG, 41, .inr (.inr (.inr (.inr ME_kept))))), ((aME 1), .inl (cI, 32, .inl o51_nMEnow))] ++ rw41 cI KRr KRf)) [2, 6, 3, 7, 8, 9, 10, 11, 12, 13, 14, 15, 16, 17, 18, 19, 20, 21, 22, 23, 24, 25, 26, 27, 28, 29, 30, 31, 32, 33, 34, 35, 36, 37, 38, 39, 40, 41, 42, 43, 44, 45, 46, 47] (by decide) rfl
        have hFc := va_free (wc := ([(ME, .inr (3, oX3 FL aME ME_oldest ME_done ME_undone)), ((aME 3), .inl (cG, 41, .inr (.inr (.inr (.inr ME_kept))))), ((aME 1), .inl (cI, 32, .inl o51_nMEnow))] ++ rw41 cI KRr KRf)) hD hS hA [2, 6, 3, 7, 8, 9, 10, 11, 12, 13, 14, 15, 16, 17, 18, 19, 20, 21, 22, 23, 24, 25, 26, 27, 28, 29, 30, 31, 32, 33, 34, 35, 36, 37, 38, 39, 40, 41, 42, 43, 44, 45, 46, 47] rfl
        refine va_callv (va_runV (As := []) (rest := []) ⟨hx, hb, hml, hown, hts⟩ (c_X3_keepAct l D cI cB cL cZ cG ME FL aME ME_oldest ME_done ME_undone ME_kept KRr o51_nMEnow KRf H.size b_ME_oldest b_ME_done b_ME_undone k_ME_kept so51_nMEnow_0 w_KR) (cwV 0 hts gX11_carry_X3_keepAct rfl rfl rfl (by decide +kernel) ⟨Nat.le_of_ble_eq_true rfl, Nat.le_of_ble_eq_true rfl⟩) ⟨xp_blind, va_recv hK hP (ci := 3) (q0 := 2) rfl rfl, fun U hU hW => xp_mk hU hW hPc hK hDc xNw_nil⟩ rfl rfl hl.1 rfl (lv_room (Nat.le_of_ble_eq_true rfl)) dX11_carry_58 ⟨Nat.le_of_ble_eq_true rfl, Nat.le_of_ble_eq_true rfl⟩) hS (fun q _ h => hFc q h) hFc (fun u9 t9 H1 locs ht9 hvm9 hr58 hB9 hz9 hk9 hS => ?_)
        obtain ⟨o58_nME_oldest, o58_nME_done, o58_nME_undone, o58_nKRf, bo58_nME_oldest, bo58_nME_done, bo58_nME_undone, wo58_nKRf, hP1, hD1⟩ := hB9
        rw [ht9] at hP1
        obtain ⟨hP, hD⟩ := va_join (wr := [(SO, .inr (11, oX11 PL DR TA RE FL RO HU ME TR NI)), (PL, .inr (5, oX5 FO aPL PL_rooms PL_doors PL_things PL_draw PL_drawTold)), ((aPL 4), .inl (cI, 12, .inl PL_doorFrom)), ((aPL 5), .inl (cI, 12, .inl PL_doorTo))]) (w1 := ([(ME, .inr (3, oX3 FL aME o58_nME_oldest o58_nME_done o58_nME_undone)), ((aME 3), .inl (cG, 41, .inr (.inr (.inr (.inr ME_kept))))), ((aME 1), .inl (cI, 32, .inl o51_nMEnow))] ++ rw41 cI KRr o58_nKRf)) hP hD [2, 6, 3, 7, 8, 9, 10, 11, 12, 13, 14, 15, 16, 17, 18, 19, 20, 21, 22, 23, 24, 25, 26, 27, 28, 29, 30, 31, 32, 33, 34, 35, 36, 37, 38, 39, 40, 41, 42, 43, 44, 45, 46, 47] [0, 1, 4, 5] rfl rfl (by decide) (by decide) hk9 hFc hP1 hD1
        clear hz9 hPc hDc hP1 hD1 hk9 hFc ht9 hvm9 u9 t9
        generalize H1 = H at hP hS ⊢
        replace hP : va_P D classes ([(SO, .inr (11, oX11 PL DR TA RE FL RO HU ME TR NI)), (PL, .inr (5, oX5 FO aPL PL_rooms PL_doors PL_things PL_draw PL_drawTold)), (ME, .inr (3, oX3 FL aME o58_nME_oldest o58_nME_done o58_nME_undone)), ((aME 1), .inl (cI, 32, .inl o51_nMEnow)), ((aPL 4), .inl (cI, 12, .inl PL_doorFrom)), ((aPL 5), .inl (cI, 12, .inl PL_doorTo)), ((aME 3), .inl (cG, 41, .inr (.inr (.inr (.inr ME_kept)))))] ++ rw41 cI KRr o58_nKRf) H := hP.sub [0, 1, 4, 6, 2, 3, 5, 7, 8, 9, 10, 11, 12, 13, 14, 15, 16, 17, 18, 19, 20, 21, 22, 23, 24, 25, 26, 27, 28, 29, 30, 31, 32, 33, 34, 35, 36, 37, 38, 39, 40, 41, 42, 43, 44, 45, 46, 47] rfl
        replace hD : va_D A ([(SO, .inr (11, oX11 PL DR TA RE FL RO HU ME TR NI)), (PL, .inr (5, oX5 FO aPL PL_rooms PL_doors PL_things PL_draw PL_drawTold)), (ME, .inr (3, oX3 FL aME o58_nME_oldest o58_nME_done o58_nME_undone)), ((aME 1), .inl (cI, 32, .inl o51_nMEnow)), ((aPL 4), .inl (cI, 12, .inl PL_doorFrom)), ((aPL 5), .inl (cI, 12, .inl PL_doorTo)), ((aME 3), .inl (cG, 41, .inr (.inr (.inr (.inr ME_kept)))))] ++ rw41 cI KRr o58_nKRf) := hD.sub [0, 1, 4, 6, 2, 3, 5, 7, 8, 9, 10, 11, 12, 13, 14, 15, 16, 17, 18, 19, 20, 21, 22, 23, 24, 25, 26, 27, 28, 29, 30, 31, 32, 33, 34, 35, 36, 37, 38, 39, 40, 41, 42, 43, 44, 45, 46, 47] (by decide) rfl
        refine lv_iload_n hx hb dX11_carry_61 rfl (lv_at hl 0 rfl) ?_
        exact W.iret (v := r34) hx hb hr (fun t ht hW => ⟨⟨r34, (), rfl, (zB_w bn40t_r34 (by decide) (by decide)), ⟨o58_nME_oldest, o58_nME_done, o58_nME_undone, o51_nMEnow, o58_nKRf, bo58_nME_oldest, (zB_w bo58_nME_done (by decide) (by decide)), (zB_w bo58_nME_undone (by decide) (by decide)), so51_nMEnow_0, wo58_nKRf, (by have h9_0 := (bo58_nME_done).1; have h9_1 := (bo58_nME_done).2; have h9_2 := (bo58_nME_undone).1; have h9_3 := (bo58_nME_undone).2; have h9_4 := q_ME; omega), by rw [ht]; exact hP, hD⟩⟩, hS.F ht⟩) hS.2.2 dX11_carry_62
      · have be40f_r34 : zB r34 (-1) (-1) := zB_eq c40 hr34 (show zB (-1) (-1) (-1) from ⟨by decide, by decide⟩) (by decide) (by decide)
        refine lv_iconst (v := (-1)) hx hb dX11_carry_43 (by decide) ?_
        exact W.iret (v := (-1)) hx hb hr (fun t ht hW => ⟨⟨(-1), (), rfl, (zB_w (show zB (-1) (-1) (-1) from ⟨by decide, by decide⟩) (by decide) (by decide)), ⟨ME_oldest, ME_done, ME_undone, ME_now, KRf, b_ME_oldest, b_ME_done, b_ME_undone, s_ME_now_0, w_KR, q_ME, by rw [ht]; exact hP, hD⟩⟩, hS.F ht⟩) hS.2.2 dX11_carry_44
set_option maxHeartbeats 4000000 in
set_option maxRecDepth 100000 in
theorem c_X11_send (l : Launch) (D : va_G) (cI : ClassId) (cB : ClassId) (cL : ClassId) (cZ : ClassId) (cG : ClassId) (SO : Nat) (x0 : Int32) (PL : Nat) (DR : Nat) (TA : Nat) (RE : Nat) (FL : Nat) (RO : Nat) (HU : Nat) (ME : Nat) (TR : Nat) (NI : Nat) (PL_rooms : Int32) (aPL : Nat → Nat) (PL_doors : Int32) (PL_things : Int32) (FO : Nat) (PL_draw : Int32) (PL_drawTold : Int32) (aME : Nat → Nat) (ME_oldest : Int32) (ME_done : Int32) (ME_undone : Int32) (ME_now : Nat → Int32) (ME_kept : Nat → Option Nat) (KRr : Nat → Nat) (KRf : Nat → Nat → Int32) (sz : Nat) (q_ME : ME_done.toInt + ME_undone.toInt ≤ 40) (b_PL_rooms : zB PL_rooms 0 8) (b_PL_doors : zB PL_doors 0 12) (b_PL_things : zB PL_things 0 6) (b_ME_oldest : zB ME_oldest 0 40) (b_ME_done : zB ME_done 0 40) (b_ME_undone : zB ME_undone 0 40) (s_ME_now_0 : zA ME_now 0 12 0 7) (k_ME_kept : ∀ j, j < 41 → ME_kept j = some (KRr j)) (w_KR : ∀ j, j < 41 → zA (KRf j) 0 12 0 7) : Met l yX11_send wsX11_send ({ frames := 2, cells := 0, slots := 0, locals := 60 }) (xp D [(cI, .int), (cB, .byte), (cL, .long), (cZ, .boolean), (cG, .array .int)] ([(SO, .inr (11, oX11 PL DR TA RE FL RO HU ME TR NI)), (PL, .inr (5, oX5 FO aPL PL_rooms PL_doors PL_things PL_draw PL_drawTold)), (ME, .inr (3, oX3 FL aME ME_oldest ME_done ME_undone)), ((aME 1), .inl (cI, 32, .inl ME_now)), ((aME 3), .inl (cG, 41, .inr (.inr (.inr (.inr ME_kept)))))] ++ rw41 cI KRr KRf) sz [] [.ref SO, .int x0]) (va_Qi (fun (r : Int32) (_ : Unit) => True) (fun (_ : Unit) (t : State) => ∃ (nME_oldest : Int32), ∃ (nME_done : Int32), ∃ (nME_undone : Int32), ∃ (nMEnow : Nat → Int32), ∃ (nKRf : Nat → Nat → Int32), zB nME_oldest 0 40 ∧ zB nME_done 0 40 ∧ zB nME_undone 0 40 ∧ zA nMEnow 0 12 0 7 ∧ (∀ j, j < 41 → zA (nKRf j) 0 12 0 7) ∧ nME_done.toInt + nME_undone.toInt ≤ 40 ∧ xB D (va_A ([(SO, .inr (11, oX11 PL DR TA RE FL RO HU ME TR NI)), (PL, .inr (5, oX5 FO aPL PL_rooms PL_doors PL_things PL_draw PL_drawTold)), (ME, .inr (3, oX3 FL aME ME_oldest ME_done ME_undone)), ((aME 1), .inl (cI, 32, .inl ME_now)), ((aME 3), .inl (cG, 41, .inr (.inr (.inr (.inr ME_kept)))))] ++ rw41 cI KRr KRf) sz) ([(SO, .inr (11, oX11 PL DR TA RE FL RO HU ME TR NI)), (PL, .inr (5, oX5 FO aPL PL_rooms PL_doors PL_things PL_draw PL_drawTold)), (ME, .inr (3, oX3 FL aME nME_oldest nME_done nME_undone)), ((aME 1), .inl (cI, 32, .inl nMEnow)), ((aME 3), .inl (cG, 41, .inr (.inr (.inr (.inr ME_kept)))))] ++ rw41 cI KRr nKRf) t) (va_A ([(SO, .inr (11, oX11 PL DR TA RE FL RO HU ME TR NI)), (PL, .inr (5, oX5 FO aPL PL_rooms PL_doors PL_things PL_draw PL_drawTold)), (ME, .inr (3, oX3 FL aME ME_oldest ME_done ME_undone)), ((aME 1), .inl (cI, 32, .inl ME_now)), ((aME 3), .inl (cG, 41, .inr (.inr (.inr (.inr ME_kept)))))] ++ rw41 cI KRr KRf) sz)) 0 0 (va_A ([(SO, .inr (11, oX11 PL DR TA RE FL RO HU ME TR NI)), (PL, .inr (5, oX5 FO aPL PL_rooms PL_doors PL_things PL_draw PL_drawTold)), (ME, .inr (3, oX3 FL aME ME_oldest ME_done ME_undone)), ((aME 1), .inl (cI, 32, .inl ME_now)), ((aME 3), .inl (cG, 41, .inr (.inr (.inr (.inr ME_kept)))))] ++ rw41 cI KRr KRf) sz) := by
  refine Met.ofW (cc := cX11_send) (maxL := 2) (ret := (some .int)) (by decide) rfl ?_
  intro p e s m args below meth c s₁ B hml hv
  obtain ⟨rfl, hsz, hP, hK, hD0, hNw⟩ := hv
  have hx := B.exec
  have hb := B.bytes
  have hr := B.returns
  have hts := atoms_spec (ws := wsX11_send) B.pre
  have hown : s.vm.findClass RX11 = some m.cls := findClass_of_methodNamed B.named
  have hlocks := B.notSynchronized
  clear B
  subst hsz
  have hD := hD0.self (sz := s.heap.size)
  clear hD0 hNw
  generalize hAe : va_A ([(SO, .inr (11, oX11 PL DR TA RE FL RO HU ME TR NI)), (PL, .inr (5, oX5 FO aPL PL_rooms PL_doors PL_things PL_draw PL_drawTold)), (ME, .inr (3, oX3 FL aME ME_oldest ME_done ME_undone)), ((aME 1), .inl (cI, 32, .inl ME_now)), ((aME 3), .inl (cG, 41, .inr (.inr (.inr (.inr ME_kept)))))] ++ rw41 cI KRr KRf) s.heap.size = A at hD ⊢
  have hA : ∀ q : Nat, s.heap.size ≤ q → A q := fun q h => by rw [← hAe]; exact Or.inr h
  have hS : va_S A s.heap s.heap [] := va_S.rf
  clear hAe
  obtain ⟨H, hH⟩ : ∃ H : Heap, H = s.heap := ⟨_, rfl⟩
  obtain ⟨locs, hlocs⟩ : ∃ L : List Loc, L = [] := ⟨_, rfl⟩
  replace hP : va_P D classes ([(SO, .inr (11, oX11 PL DR TA RE FL RO HU ME TR NI)), (PL, .inr (5, oX5 FO aPL PL_rooms PL_doors PL_things PL_draw PL_drawTold)), (ME, .inr (3, oX3 FL aME ME_oldest ME_done ME_undone)), ((aME 1), .inl (cI, 32, .inl ME_now)), ((aME 3), .inl (cG, 41, .inr (.inr (.inr (.inr ME_kept)))))] ++ rw41 cI KRr KRf) H := by rw [hH]; exact hP
  replace hS : va_S A s.heap H locs := by rw [hH, hlocs]; exact hS
  rw [← hH, ← hlocs]
  clear hlocs hH
  have hl := lv_entry ([.ref SO, .int x0]) (n := 2) (Nat.le_of_ble_eq_true rfl)
  rw [lg_entry_eq]
  generalize (lg_sl ([.ref SO, .int x0]) ++ List.replicate (2 - (lg_sl ([.ref SO, .int x0])).length) Slot.unset).toArray = ls at hl ⊢
  replace hl : lv_has ls 2 [(0, .ref SO), (1, .int x0)] := hl
  refine lv_aload_n hx hb dX11_send_0 rfl (lv_at hl 0 rfl) ?_
  refine lv_iload_n hx hb dX11_send_1 rfl (lv_at hl 1 rfl) ?_
  have hPc := hP.sub (ws' := [(SO, .inr (11, oX11 PL DR TA RE FL RO HU ME TR NI)), (PL, .inr (5, oX5 FO aPL PL_rooms PL_doors PL_things PL_draw PL_drawTold))]) [0, 1] rfl
  refine vp_callSi (va_runV (As := [.int x0]) (rest := []) ⟨hx, hb, hml, hown, hts⟩ (c_X11_isThing l D cI cB cL cZ cG SO x0 PL DR TA RE FL RO HU ME TR NI PL_rooms aPL PL_doors PL_things FO PL_draw PL_drawTold b_PL_rooms b_PL_doors b_PL_things) (cwV 1 hts gX11_send_X11_isThing rfl rfl rfl (by decide +kernel) ⟨Nat.le_of_ble_eq_true rfl, Nat.le_of_ble_eq_true rfl⟩) ⟨xr_blind, va_recv hK hP (ci := 11) (q0 := 0) rfl rfl, fun U hU hW => xr_mk hU hW hPc hK⟩ rfl rfl hl.1 rfl (lv_room (Nat.le_of_ble_eq_true rfl)) dX11_send_2 ⟨Nat.le_of_ble_eq_true rfl, Nat.le_of_ble_eq_true rfl⟩).run (fun r2 hr2 => ?_)
  clear hPc
  rcases hr2 with rfl | ⟨rfl, hr2_1_0⟩
  · refine lv_if_ne (tgt := 10) hx hb dX11_send_5 (by decide) (fun c5 => absurd (by decide) c5) (fun _ => ?_)
    refine lv_iconst (v := (-1)) hx hb dX11_send_8 (by decide) ?_
    exact W.iret (v := (-1)) hx hb hr (fun t ht hW => ⟨⟨(-1), (), rfl, trivial, ⟨ME_oldest, ME_done, ME_undone, ME_now, KRf, b_ME_oldest, b_ME_done, b_ME_undone, s_ME_now_0, w_KR, q_ME, by rw [ht]; exact hP, hD⟩⟩, hS.F ht⟩) hS.2.2 dX11_send_9
  · refine lv_if_ne (tgt := 10) hx hb dX11_send_5 (by decide) (fun _ => ?_) (fun c5 => absurd c5 (by decide))
    refine lv_aload_n hx hb dX11_send_10 rfl (lv_at hl 0 rfl) ?_
    refine va_get (D := D) (ci := 11) (v := .ref ME) (C := RX11) (T := TX11) (N := 10) hx hb hts iw_X11_send_X11 hown hK hP 0 rfl rfl 7 (by decide) (hts (.fieldLink RX11 63 "SoldHouse" "memory" "LSoldHouse$Memory;") (List.mem_of_getElem? (i := 1) rfl)) (fun _ h9 => h9) rfl dX11_send_11 ?_
    refine va_get (D := D) (ci := 3) (v := .ref (aME 1)) (C := RX3) (T := TX3) (N := 9) hx hb hts iw_X11_send_X3 hown hK hP 2 rfl rfl 1 (by decide) (hts (.fieldLink RX11 128 "SoldHouse$Memory" "now" "[I") (List.mem_of_getElem? (i := 2) rfl)) (fun _ h9 => h9) rfl dX11_send_14 ?_
    refine lv_bipush (v := 12) hx hb dX11_send_17 (by decide) ?_
    refine lv_iload_n hx hb dX11_send_19 rfl (lv_at hl 1 rfl) ?_
    refine lv_iadd hx hb dX11_send_20 ?_
    refine zi_top (a := 12) (b := 17) (zB_add (show zB 12 12 12 from ⟨by decide, by decide⟩) hr2_1_0 (by decide) (by decide) (by decide) (by decide)) (fun y20 by20 => ?_)
    refine lv_iconst (v := 1) hx hb dX11_send_21 (by decide) ?_
    refine lv_aload_n hx hb dX11_send_22 rfl (lv_at hl 0 rfl) ?_
    refine va_get (D := D) (ci := 11) (v := .ref ME) (C := RX11) (T := TX11) (N := 10) hx hb hts iw_X11_send_X11 hown hK hP 0 rfl rfl 7 (by decide) (hts (.fieldLink RX11 63 "SoldHouse" "memory" "LSoldHouse$Memory;") (List.mem_of_getElem? (i := 1) rfl)) (fun _ h9 => h9) rfl dX11_send_23 ?_
    refine va_get (D := D) (ci := 3) (v := .ref (aME 1)) (C := RX3) (T := TX3) (N := 9) hx hb hts iw_X11_send_X3 hown hK hP 2 rfl rfl 1 (by decide) (hts (.fieldLink RX11 128 "SoldHouse$Memory" "now" "[I") (List.mem_of_getElem? (i := 2) rfl)) (fun _ h9 => h9) rfl dX11_send_26 ?_
    refine lv_bipush (v := 12) hx hb dX11_send_29 (by decide) ?_
    refine lv_iload_n hx hb dX11_send_31 rfl (lv_at hl 1 rfl) ?_
    refine lv_iadd hx hb dX11_send_32 ?_
    refine zi_top (a := 12) (b := 17) (zB_add (show zB 12 12 12 from ⟨by decide, by decide⟩) hr2_1_0 (by decide) (by decide) (by decide) (by decide)) (fun y32 by32 => ?_)
    refine va_iald hx hb hK hP 3 0 rfl rfl (zB_in by32 (by decide) (by decide)) dX11_send_33 ?_
    refine lv_topi (fun y33 _ => ?_)
    refine lv_isub hx hb dX11_send_34 ?_
    refine lv_topi (fun y34 _ => ?_)
    refine zi_iast hx hb hK hP hD hS 3 0 rfl rfl (zB_in by20 (by decide) (by decide)) dX11_send_35 (fun H locs g35 eg35 hP hD hS => ?_)
    replace hP : va_P D classes ([(SO, .inr (11, oX11 PL DR TA RE FL RO HU ME TR NI)), (PL, .inr (5, oX5 FO aPL PL_rooms PL_doors PL_things PL_draw PL_drawTold)), (ME, .inr (3, oX3 FL aME ME_oldest ME_done ME_undone)), ((aME 1), .inl (cI, 32, .inl g35)), ((aME 3), .inl (cG, 41, .inr (.inr (.inr (.inr ME_kept)))))] ++ rw41 cI KRr KRf) H := hP
    replace hD : va_D A ([(SO, .inr (11, oX11 PL DR TA RE FL RO HU ME TR NI)), (PL, .inr (5, oX5 FO aPL PL_rooms PL_doors PL_things PL_draw PL_drawTold)), (ME, .inr (3, oX3 FL aME ME_oldest ME_done ME_undone)), ((aME 1), .inl (cI, 32, .inl g35)), ((aME 3), .inl (cG, 41, .inr (.inr (.inr (.inr ME_kept)))))] ++ rw41 cI KRr KRf) := hD
    have sg35_0 := zA_un eg35 s_ME_now_0 by20 (by decide) (by decide)
    clear eg35
    refine lv_aload_n hx hb dX11_send_36 rfl (lv_at hl 0 rfl) ?_
    refine va_get (D := D) (ci := 11) (v := .ref ME) (C := RX11) (T := TX11) (N := 10) hx hb hts iw_X11_send_X11 hown hK hP 0 rfl rfl 7 (by decide) (hts (.fieldLink RX11 63 "SoldHouse" "memory" "LSoldHouse$Memory;") (List.mem_of_getElem? (i := 1) rfl)) (fun _ h9 => h9) rfl dX11_send_37 ?_
    have hPc := hP.sub (ws' := ([(ME, .inr (3, oX3 FL aME ME_oldest ME_done ME_undone)), ((aME 3), .inl (cG, 41, .inr (.inr (.inr (.inr ME_kept))))), ((aME 1), .inl (cI, 32, .inl g35))] ++ rw41 cI KRr KRf)) [2, 4, 3, 5, 6, 7, 8, 9, 10, 11, 12, 13, 14, 15, 16, 17, 18, 19, 20, 21, 22, 23, 24, 25, 26, 27, 28, 29, 30, 31, 32, 33, 34, 35, 36, 37, 38, 39, 40, 41, 42, 43, 44, 45] rfl
    have hDc := hD.sub (ws' := ([(ME, .inr (3, oX3 FL aME ME_oldest ME_done ME_undone)), ((aME 3), .inl (cG, 41, .inr (.inr (.inr (.inr ME_kept))))), ((aME 1), .inl (cI, 32, .inl g35))] ++ rw41 cI KRr KRf)) [2, 4, 3, 5, 6, 7, 8, 9, 10, 11, 12, 13, 14, 15, 16, 17, 18, 19, 20, 21, 22, 23, 24, 25, 26, 27, 28, 29, 30, 31, 32, 33, 34, 35, 36, 37, 38, 39, 40, 41, 42, 43, 44, 45] (by decide) rfl
    have hFc := va_free (wc := ([(ME, .inr (3, oX3 FL aME ME_oldest ME_done ME_undone)), ((aME 3), .inl (cG, 41, .inr (.inr (.inr (.inr ME_kept))))), ((aME 1), .inl (cI, 32, .inl g35))] ++ rw41 cI KRr KRf)) hD hS hA [2, 4, 3, 5, 6, 7, 8, 9, 10, 11, 12, 13, 14, 15, 16, 17, 18, 19, 20, 21, 22, 23, 24, 25, 26, 27, 28, 29, 30, 31, 32, 33, 34, 35, 36, 37, 38, 39, 40, 41, 42, 43, 44, 45] rfl
    refine va_callv (va_runV (As := []) (rest := []) ⟨hx, hb, hml, hown, hts⟩ (c_X3_keepAct l D cI cB cL cZ cG ME FL aME ME_oldest ME_done ME_undone ME_kept KRr g35 KRf H.size b_ME_oldest b_ME_done b_ME_undone k_ME_kept sg35_0 w_KR) (cwV 0 hts gX11_send_X3_keepAct rfl rfl rfl (by decide +kernel) ⟨Nat.le_of_ble_eq_true rfl, Nat.le_of_ble_eq_true rfl⟩) ⟨xp_blind, va_recv hK hP (ci := 3) (q0 := 2) rfl rfl, fun U hU hW => xp_mk hU hW hPc hK hDc xNw_nil⟩ rfl rfl hl.1 rfl (lv_room (Nat.le_of_ble_eq_true rfl)) dX11_send_40 ⟨Nat.le_of_ble_eq_true rfl, Nat.le_of_ble_eq_true rfl⟩) hS (fun q _ h => hFc q h) hFc (fun u9 t9 H1 locs ht9 hvm9 hr40 hB9 hz9 hk9 hS => ?_)
    obtain ⟨o40_nME_oldest, o40_nME_done, o40_nME_undone, o40_nKRf, bo40_nME_oldest, bo40_nME_done, bo40_nME_undone, wo40_nKRf, hP1, hD1⟩ := hB9
    rw [ht9] at hP1
    obtain ⟨hP, hD⟩ := va_join (wr := [(SO, .inr (11, oX11 PL DR TA RE FL RO HU ME TR NI)), (PL, .inr (5, oX5 FO aPL PL_rooms PL_doors PL_things PL_draw PL_drawTold))]) (w1 := ([(ME, .inr (3, oX3 FL aME o40_nME_oldest o40_nME_done o40_nME_undone)), ((aME 3), .inl (cG, 41, .inr (.inr (.inr (.inr ME_kept))))), ((aME 1), .inl (cI, 32, .inl g35))] ++ rw41 cI KRr o40_nKRf)) hP hD [2, 4, 3, 5, 6, 7, 8, 9, 10, 11, 12, 13, 14, 15, 16, 17, 18, 19, 20, 21, 22, 23, 24, 25, 26, 27, 28, 29, 30, 31, 32, 33, 34, 35, 36, 37, 38, 39, 40, 41, 42, 43, 44, 45] [0, 1] rfl rfl (by decide) (by decide) hk9 hFc hP1 hD1
    clear hz9 hPc hDc hP1 hD1 hk9 hFc ht9 hvm9 u9 t9
    generalize H1 = H at hP hS ⊢
    replace hP : va_P D classes ([(SO, .inr (11, oX11 PL DR TA RE FL RO HU ME TR NI)), (PL, .inr (5, oX5 FO aPL PL_rooms PL_doors PL_things PL_draw PL_drawTold)), (ME, .inr (3, oX3 FL aME o40_nME_oldest o40_nME_done o40_nME_undone)), ((aME 1), .inl (cI, 32, .inl g35)), ((aME 3), .inl (cG, 41, .inr (.inr (.inr (.inr ME_kept)))))] ++ rw41 cI KRr o40_nKRf) H := hP.sub [0, 1, 2, 4, 3, 5, 6, 7, 8, 9, 10, 11, 12, 13, 14, 15, 16, 17, 18, 19, 20, 21, 22, 23, 24, 25, 26, 27, 28, 29, 30, 31, 32, 33, 34, 35, 36, 37, 38, 39, 40, 41, 42, 43, 44, 45] rfl
    replace hD : va_D A ([(SO, .inr (11, oX11 PL DR TA RE FL RO HU ME TR NI)), (PL, .inr (5, oX5 FO aPL PL_rooms PL_doors PL_things PL_draw PL_drawTold)), (ME, .inr (3, oX3 FL aME o40_nME_oldest o40_nME_done o40_nME_undone)), ((aME 1), .inl (cI, 32, .inl g35)), ((aME 3), .inl (cG, 41, .inr (.inr (.inr (.inr ME_kept)))))] ++ rw41 cI KRr o40_nKRf) := hD.sub [0, 1, 2, 4, 3, 5, 6, 7, 8, 9, 10, 11, 12, 13, 14, 15, 16, 17, 18, 19, 20, 21, 22, 23, 24, 25, 26, 27, 28, 29, 30, 31, 32, 33, 34, 35, 36, 37, 38, 39, 40, 41, 42, 43, 44, 45] (by decide) rfl
    refine lv_aload_n hx hb dX11_send_43 rfl (lv_at hl 0 rfl) ?_
    refine va_get (D := D) (ci := 11) (v := .ref ME) (C := RX11) (T := TX11) (N := 10) hx hb hts iw_X11_send_X11 hown hK hP 0 rfl rfl 7 (by decide) (hts (.fieldLink RX11 63 "SoldHouse" "memory" "LSoldHouse$Memory;") (List.mem_of_getElem? (i := 1) rfl)) (fun _ h9 => h9) rfl dX11_send_44 ?_
    refine va_get (D := D) (ci := 3) (v := .ref (aME 1)) (C := RX3) (T := TX3) (N := 9) hx hb hts iw_X11_send_X3 hown hK hP 2 rfl rfl 1 (by decide) (hts (.fieldLink RX11 128 "SoldHouse$Memory" "now" "[I") (List.mem_of_getElem? (i := 2) rfl)) (fun _ h9 => h9) rfl dX11_send_47 ?_
    refine lv_bipush (v := 12) hx hb dX11_send_50 (by decide) ?_
    refine lv_iload_n hx hb dX11_send_52 rfl (lv_at hl 1 rfl) ?_
    refine lv_iadd hx hb dX11_send_53 ?_
    refine zi_top (a := 12) (b := 17) (zB_add (show zB 12 12 12 from ⟨by decide, by decide⟩) hr2_1_0 (by decide) (by decide) (by decide) (by decide)) (fun y53 by53 => ?_)
    refine va_iald hx hb hK hP 3 0 rfl rfl (zB_in by53 (by decide) (by decide)) dX11_send_54 ?_
    refine lv_topi (fun y54 _ => ?_)
    exact W.iret (v := y54) hx hb hr (fun t ht hW => ⟨⟨y54, (), rfl, trivial, ⟨o40_nME_oldest, o40_nME_done, o40_nME_undone, g35, o40_nKRf, bo40_nME_oldest, (zB_w bo40_nME_done (by decide) (by decide)), (zB_w bo40_nME_undone (by decide) (by decide)), sg35_0, wo40_nKRf, (by have h9_0 := (bo40_nME_done).1; have h9_1 := (bo40_nME_done).2; have h9_2 := (bo40_nME_undone).1; have h9_3 := (bo40_nME_undone).2; have h9_4 := q_ME; omega), by rw [ht]; exact hP, hD⟩⟩, hS.F ht⟩) hS.2.2 dX11_send_55
set_option maxHeartbeats 4000000 in
set_option maxRecDepth 100000 in
theorem c_X11_day (l : Launch) (D : va_G) (cI : ClassId) (cB : ClassId) (cL : ClassId) (cZ : ClassId) (cG : ClassId) (SO : Nat) (PL : Nat) (DR : Nat) (TA : Nat) (RE : Nat) (FL : Nat) (RO : Nat) (HU : Nat) (ME : Nat) (TR : Nat) (NI : Nat) (aME : Nat → Nat) (ME_oldest : Int32) (ME_done : Int32) (ME_undone : Int32) (ME_now : Nat → Int32) (aFL : Nat → Nat) (FL_parting : Int32) (PL_rooms : Int32) (aPL : Nat → Nat) (PL_doors : Int32) (PL_things : Int32) (FO : Nat) (PL_draw : Int32) (PL_drawTold : Int32) (aFO : Nat → Nat) (FO_size : Int32) (FO_units : Int32) (FO_told : Int32) (PL_us : Nat → Int32) (PL_them : Nat → Int32) (FL_far : Nat → Int32) (FO_known : Nat → Int32) (FO_steps : Nat → Int32) (FO_stack : Nat → Int32) (ME_kept : Nat → Option Nat) (KRr : Nat → Nat) (KRf : Nat → Nat → Int32) (sz : Nat) (q_ME : ME_done.toInt + ME_undone.toInt ≤ 40) (b_ME_oldest : zB ME_oldest 0 40) (b_ME_done : zB ME_done 0 40) (b_ME_undone : zB ME_undone 0 40) (b_PL_rooms : zB PL_rooms 0 8) (b_PL_doors : zB PL_doors 0 12) (b_PL_things : zB PL_things 0 6) (b_FO_size : zB FO_size 0 400) (s_ME_now_0 : zA ME_now 0 12 0 7) (s_FL_far_0 : zA FL_far 0 64 (-1) 7) (k_ME_kept : ∀ j, j < 41 → ME_kept j = some (KRr j)) (w_KR : ∀ j, j < 41 → zA (KRf j) 0 12 0 7) : Met l yX11_day wsX11_day ({ frames := 4, cells := 0, slots := 0, locals := 93 }) (xp D [(cI, .int), (cB, .byte), (cL, .long), (cZ, .boolean), (cG, .array .int)] ([(SO, .inr (11, oX11 PL DR TA RE FL RO HU ME TR NI)), (ME, .inr (3, oX3 FL aME ME_oldest ME_done ME_undone)), ((aME 1), .inl (cI, 32, .inl ME_now)), (FL, .inr (0, oX0 PL aFL FL_parting)), (PL, .inr (5, oX5 FO aPL PL_rooms PL_doors PL_things PL_draw PL_drawTold)), (FO, .inr (1, oX1 aFO FO_size FO_units FO_told)), ((aPL 11), .inl (cI, 6, .inl PL_us)), ((aPL 12), .inl (cI, 6, .inl PL_them)), ((aFL 2), .inl (cI, 64, .inl FL_far)), ((aFO 2), .inl (cI, 5, .inl FO_known)), ((aFO 0), .inl (cI, 400, .inl FO_steps)), ((aFO 1), .inl (cI, 61, .inl FO_stack)), ((aME 3), .inl (cG, 41, .inr (.inr (.inr (.inr ME_kept)))))] ++ rw41 cI KRr KRf) sz [] [.ref SO]) (va_Qi (fun (r : Int32) (_ : Unit) => zB r (-1) 63) (fun (_ : Unit) (t : State) => ∃ (nME_oldest : Int32), ∃ (nME_done : Int32), ∃ (nME_undone : Int32), ∃ (nMEnow : Nat → Int32), ∃ (nFOknown : Nat → Int32), ∃ (nFOstack : Nat → Int32), ∃ (nKRf : Nat → Nat → Int32), zB nME_oldest 0 40 ∧ zB nME_done 0 40 ∧ zB nME_undone 0 40 ∧ zA nMEnow 0 12 0 7 ∧ (∀ j, j < 41 → zA (nKRf j) 0 12 0 7) ∧ nME_done.toInt + nME_undone.toInt ≤ 40 ∧ xB D (va_A ([(SO, .inr (11, oX11 PL DR TA RE FL RO HU ME TR NI)), (ME, .inr (3, oX3 FL aME ME_oldest ME_done ME_undone)), ((aME 1), .inl (cI, 32, .inl ME_now)), (FL, .inr (0, oX0 PL aFL FL_parting)), (PL, .inr (5, oX5 FO aPL PL_rooms PL_doors PL_things PL_draw PL_drawTold)), (FO, .inr (1, oX1 aFO FO_size FO_units FO_told)), ((aPL 11), .inl (cI, 6, .inl PL_us)), ((aPL 12), .inl (cI, 6, .inl PL_them)), ((aFL 2), .inl (cI, 64, .inl FL_far)), ((aFO 2), .inl (cI, 5, .inl FO_known)), ((aFO 0), .inl (cI, 400, .inl FO_steps)), ((aFO 1), .inl (cI, 61, .inl FO_stack)), ((aME 3), .inl (cG, 41, .inr (.inr (.inr (.inr ME_kept)))))] ++ rw41 cI KRr KRf) sz) ([(SO, .inr (11, oX11 PL DR TA RE FL RO HU ME TR NI)), (ME, .inr (3, oX3 FL aME nME_oldest nME_done nME_undone)), ((aME 1), .inl (cI, 32, .inl nMEnow)), (FL, .inr (0, oX0 PL aFL FL_parting)), (PL, .inr (5, oX5 FO aPL PL_rooms PL_doors PL_things PL_draw PL_drawTold)), (FO, .inr (1, oX1 aFO FO_size FO_units FO_told)), ((aPL 11), .inl (cI, 6, .inl PL_us)), ((aPL 12), .inl (cI, 6, .inl PL_them)), ((aFL 2), .inl (cI, 64, .inl FL_far)), ((aFO 2), .inl (cI, 5, .inl nFOknown)), ((aFO 0), .inl (cI, 400, .inl FO_steps)), ((aFO 1), .inl (cI, 61, .inl nFOstack)), ((aME 3), .inl (cG, 41, .inr (.inr (.inr (.inr ME_kept)))))] ++ rw41 cI KRr nKRf) t) (va_A ([(SO, .inr (11, oX11 PL DR TA RE FL RO HU ME TR NI)), (ME, .inr (3, oX3 FL aME ME_oldest ME_done ME_undone)), ((aME 1), .inl (cI, 32, .inl ME_now)), (FL, .inr (0, oX0 PL aFL FL_parting)), (PL, .inr (5, oX5 FO aPL PL_rooms PL_doors PL_things PL_draw PL_drawTold)), (FO, .inr (1, oX1 aFO FO_size FO_units FO_told)), ((aPL 11), .inl (cI, 6, .inl PL_us)), ((aPL 12), .inl (cI, 6, .inl PL_them)), ((aFL 2), .inl (cI, 64, .inl FL_far)), ((aFO 2), .inl (cI, 5, .inl FO_known)), ((aFO 0), .inl (cI, 400, .inl FO_steps)), ((aFO 1), .inl (cI, 61, .inl FO_stack)), ((aME 3), .inl (cG, 41, .inr (.inr (.inr (.inr ME_kept)))))] ++ rw41 cI KRr KRf) sz)) 0 0 (va_A ([(SO, .inr (11, oX11 PL DR TA RE FL RO HU ME TR NI)), (ME, .inr (3, oX3 FL aME ME_oldest ME_done ME_undone)), ((aME 1), .inl (cI, 32, .inl ME_now)), (FL, .inr (0, oX0 PL aFL FL_parting)), (PL, .inr (5, oX5 FO aPL PL_rooms PL_doors PL_things PL_draw PL_drawTold)), (FO, .inr (1, oX1 aFO FO_size FO_units FO_told)), ((aPL 11), .inl (cI, 6, .inl PL_us)), ((aPL 12), .inl (cI, 6, .inl PL_them)), ((aFL 2), .inl (cI, 64, .inl FL_far)), ((aFO 2), .inl (cI, 5, .inl FO_known)), ((aFO 0), .inl (cI, 400, .inl FO_steps)), ((aFO 1), .inl (cI, 61, .inl FO_stack)), ((aME 3), .inl (cG, 41, .inr (.inr (.inr (.inr ME_kept)))))] ++ rw41 cI KRr KRf) sz) := by
  refine Met.ofW (cc := cX11_day) (maxL := 2) (ret := (some .int)) (by decide) rfl ?_
  intro p e s m args below meth c s₁ B hml hv
  obtain ⟨rfl, hsz, hP, hK, hD0, hNw⟩ := hv
  have hx := B.exec
  have hb := B.bytes
  have hr := B.returns
  have hts := atoms_spec (ws := wsX11_day) B.pre
  have hown : s.vm.findClass RX11 = some m.cls := findClass_of_methodNamed B.named
  have hlocks := B.notSynchronized
  clear B
  subst hsz
  have hD := hD0.self (sz := s.heap.size)
  clear hD0 hNw
  generalize hAe : va_A ([(SO, .inr (11, oX11 PL DR TA RE FL RO HU ME TR NI)), (ME, .inr (3, oX3 FL aME ME_oldest ME_done ME_undone)), ((aME 1), .inl (cI, 32, .inl ME_now)), (FL, .inr (0, oX0 PL aFL FL_parting)), (PL, .inr (5, oX5 FO aPL PL_rooms PL_doors PL_things PL_draw PL_drawTold)), (FO, .inr (1, oX1 aFO FO_size FO_units FO_told)), ((aPL 11), .inl (cI, 6, .inl PL_us)), ((aPL 12), .inl (cI, 6, .inl PL_them)), ((aFL 2), .inl (cI, 64, .inl FL_far)), ((aFO 2), .inl (cI, 5, .inl FO_known)), ((aFO 0), .inl (cI, 400, .inl FO_steps)), ((aFO 1), .inl (cI, 61, .inl FO_stack)), ((aME 3), .inl (cG, 41, .inr (.inr (.inr (.inr ME_kept)))))] ++ rw41 cI KRr KRf) s.heap.size = A at hD ⊢
  have hA : ∀ q : Nat, s.heap.size ≤ q → A q := fun q h => by rw [← hAe]; exact Or.inr h
  have hS : va_S A s.heap s.heap [] := va_S.rf
  clear hAe
  obtain ⟨H, hH⟩ : ∃ H : Heap, H = s.heap := ⟨_, rfl⟩
  obtain ⟨locs, hlocs⟩ : ∃ L : List Loc, L = [] := ⟨_, rfl⟩
  replace hP : va_P D classes ([(SO, .inr (11, oX11 PL DR TA RE FL RO HU ME TR NI)), (ME, .inr (3, oX3 FL aME ME_oldest ME_done ME_undone)), ((aME 1), .inl (cI, 32, .inl ME_now)), (FL, .inr (0, oX0 PL aFL FL_parting)), (PL, .inr (5, oX5 FO aPL PL_rooms PL_doors PL_things PL_draw PL_drawTold)), (FO, .inr (1, oX1 aFO FO_size FO_units FO_told)), ((aPL 11), .inl (cI, 6, .inl PL_us)), ((aPL 12), .inl (cI, 6, .inl PL_them)), ((aFL 2), .inl (cI, 64, .inl FL_far)), ((aFO 2), .inl (cI, 5, .inl FO_known)), ((aFO 0), .inl (cI, 400, .inl FO_steps)), ((aFO 1), .inl (cI, 61, .inl FO_stack)), ((aME 3), .inl (cG, 41, .inr (.inr (.inr (.inr ME_kept)))))] ++ rw41 cI KRr KRf) H := by rw [hH]; exact hP
  replace hS : va_S A s.heap H locs := by rw [hH, hlocs]; exact hS
  rw [← hH, ← hlocs]
  clear hlocs hH
  have hl := lv_entry ([.ref SO]) (n := 2) (Nat.le_of_ble_eq_true rfl)
  rw [lg_entry_eq]
  generalize (lg_sl ([.ref SO]) ++ List.replicate (2 - (lg_sl ([.ref SO])).length) Slot.unset).toArray = ls at hl ⊢
  replace hl : lv_has ls 2 [(0, .ref SO)] := hl
  refine lv_aload_n hx hb dX11_day_0 rfl (lv_at hl 0 rfl) ?_
  refine va_get (D := D) (ci := 11) (v := .ref ME) (C := RX11) (T := TX11) (N := 10) hx hb hts iw_X11_day_X11 hown hK hP 0 rfl rfl 7 (by decide) (hts (.fieldLink RX11 63 "SoldHouse" "memory" "LSoldHouse$Memory;") (List.mem_of_getElem? (i := 1) rfl)) (fun _ h9 => h9) rfl dX11_day_1 ?_
  refine va_get (D := D) (ci := 3) (v := .ref (aME 1)) (C := RX3) (T := TX3) (N := 9) hx hb hts iw_X11_day_X3 hown hK hP 1 rfl rfl 1 (by decide) (hts (.fieldLink RX11 128 "SoldHouse$Memory" "now" "[I") (List.mem_of_getElem? (i := 2) rfl)) (fun _ h9 => h9) rfl dX11_day_4 ?_
  refine lv_bipush (v := 30) hx hb dX11_day_7 (by decide) ?_
  refine va_iald hx hb hK hP 2 0 rfl rfl (zB_in (show zB 30 30 30 from ⟨by decide, by decide⟩) (by decide) (by decide)) dX11_day_9 ?_
  refine lv_topi (fun y9 _ => ?_)
  refine lv_sipush (v := 999) hx hb dX11_day_10 (by decide) ?_
  refine lv_icmp_lt (tgt := 18) hx hb dX11_day_13 (by decide) (fun c13 => ?_) (fun c13 => ?_)
  · have bx13t_y9 : zB y9 (-2147483648) 998 := zB_ltu (zl c13) (zB_top y9) (show zB 999 999 999 from ⟨by decide, by decide⟩) (by decide)
    refine lv_aload_n hx hb dX11_day_18 rfl (lv_at hl 0 rfl) ?_
    refine va_get (D := D) (ci := 11) (v := .ref ME) (C := RX11) (T := TX11) (N := 10) hx hb hts iw_X11_day_X11 hown hK hP 0 rfl rfl 7 (by decide) (hts (.fieldLink RX11 63 "SoldHouse" "memory" "LSoldHouse$Memory;") (List.mem_of_getElem? (i := 1) rfl)) (fun _ h9 => h9) rfl dX11_day_19 ?_
    refine lv_aload_n hx hb dX11_day_22 rfl (lv_at hl 0 rfl) ?_
    refine va_get (D := D) (ci := 11) (v := .ref ME) (C := RX11) (T := TX11) (N := 10) hx hb hts iw_X11_day_X11 hown hK hP 0 rfl rfl 7 (by decide) (hts (.fieldLink RX11 63 "SoldHouse" "memory" "LSoldHouse$Memory;") (List.mem_of_getElem? (i := 1) rfl)) (fun _ h9 => h9) rfl dX11_day_23 ?_
    refine va_get (D := D) (ci := 3) (v := .ref (aME 1)) (C := RX3) (T := TX3) (N := 9) hx hb hts iw_X11_day_X3 hown hK hP 1 rfl rfl 1 (by decide) (hts (.fieldLink RX11 128 "SoldHouse$Memory" "now" "[I") (List.mem_of_getElem? (i := 2) rfl)) (fun _ h9 => h9) rfl dX11_day_26 ?_
    have hPc := hP.sub (ws' := [((aME 1), .inl (cI, 32, .inl ME_now)), (ME, .inr (3, oX3 FL aME ME_oldest ME_done ME_undone)), (FL, .inr (0, oX0 PL aFL FL_parting)), (PL, .inr (5, oX5 FO aPL PL_rooms PL_doors PL_things PL_draw PL_drawTold)), (FO, .inr (1, oX1 aFO FO_size FO_units FO_told)), ((aPL 11), .inl (cI, 6, .inl PL_us)), ((aPL 12), .inl (cI, 6, .inl PL_them)), ((aFL 2), .inl (cI, 64, .inl FL_far)), ((aFO 2), .inl (cI, 5, .inl FO_known)), ((aFO 0), .inl (cI, 400, .inl FO_steps)), ((aFO 1), .inl (cI, 61, .inl FO_stack))]) [2, 1, 3, 4, 5, 6, 7, 8, 9, 10, 11] rfl
    have hDc := hD.sub (ws' := [((aME 1), .inl (cI, 32, .inl ME_now)), (ME, .inr (3, oX3 FL aME ME_oldest ME_done ME_undone)), (FL, .inr (0, oX0 PL aFL FL_parting)), (PL, .inr (5, oX5 FO aPL PL_rooms PL_doors PL_things PL_draw PL_drawTold)), (FO, .inr (1, oX1 aFO FO_size FO_units FO_told)), ((aPL 11), .inl (cI, 6, .inl PL_us)), ((aPL 12), .inl (cI, 6, .inl PL_them)), ((aFL 2), .inl (cI, 64, .inl FL_far)), ((aFO 2), .inl (cI, 5, .inl FO_known)), ((aFO 0), .inl (cI, 400, .inl FO_steps)), ((aFO 1), .inl (cI, 61, .inl FO_stack))]) [2, 1, 3, 4, 5, 6, 7, 8, 9, 10, 11] (by decide) rfl
    have hFc := va_free (wc := [((aME 1), .inl (cI, 32, .inl ME_now)), (ME, .inr (3, oX3 FL aME ME_oldest ME_done ME_undone)), (FL, .inr (0, oX0 PL aFL FL_parting)), (PL, .inr (5, oX5 FO aPL PL_rooms PL_doors PL_things PL_draw PL_drawTold)), (FO, .inr (1, oX1 aFO FO_size FO_units FO_told)), ((aPL 11), .inl (cI, 6, .inl PL_us)), ((aPL 12), .inl (cI, 6, .inl PL_them)), ((aFL 2), .inl (cI, 64, .inl FL_far)), ((aFO 2), .inl (cI, 5, .inl FO_known)), ((aFO 0), .inl (cI, 400, .inl FO_steps)), ((aFO 1), .inl (cI, 61, .inl FO_stack))]) hD hS hA [2, 1, 3, 4, 5, 6, 7, 8, 9, 10, 11] rfl
    refine va_calli (va_runV (As := [.ref (aME 1)]) (rest := []) ⟨hx, hb, hml, hown, hts⟩ (c_X3_passDay l D cI cB cL cZ cG ME (aME 1) ME_now FL aME ME_oldest ME_done ME_undone PL aFL FL_parting PL_rooms aPL PL_doors PL_things FO PL_draw PL_drawTold aFO FO_size FO_units FO_told PL_us PL_them FL_far FO_known FO_steps FO_stack H.size b_ME_oldest b_ME_done b_ME_undone b_PL_rooms b_PL_doors b_PL_things b_FO_size s_ME_now_0 s_FL_far_0) (cwV 1 hts gX11_day_X3_passDay rfl rfl rfl (by decide +kernel) ⟨Nat.le_of_ble_eq_true rfl, Nat.le_of_ble_eq_true rfl⟩) ⟨xp_blind, va_recv hK hP (ci := 3) (q0 := 1) rfl rfl, fun U hU hW => xp_mk hU hW hPc hK hDc xNw_nil⟩ rfl rfl hl.1 rfl (lv_room (Nat.le_of_ble_eq_true rfl)) dX11_day_29 ⟨Nat.le_of_ble_eq_true rfl, Nat.le_of_ble_eq_true rfl⟩) hS (fun q _ h => hFc q h) hFc (fun r29 u9 t9 H1 locs ht9 hvm9 hr29 hB9 hz9 hk9 hS => ?_)
    obtain ⟨o29_nrowf, o29_nFOknown, o29_nFOstack, so29_nrowf_0, hP1, hD1⟩ := hB9
    rw [ht9] at hP1
    obtain ⟨hP, hD⟩ := va_join (wr := ([(SO, .inr (11, oX11 PL DR TA RE FL RO HU ME TR NI)), ((aME 3), .inl (cG, 41, .inr (.inr (.inr (.inr ME_kept)))))] ++ rw41 cI KRr KRf)) (w1 := [((aME 1), .inl (cI, 32, .inl o29_nrowf)), (ME, .inr (3, oX3 FL aME ME_oldest ME_done ME_undone)), (FL, .inr (0, oX0 PL aFL FL_parting)), (PL, .inr (5, oX5 FO aPL PL_rooms PL_doors PL_things PL_draw PL_drawTold)), (FO, .inr (1, oX1 aFO FO_size FO_units FO_told)), ((aPL 11), .inl (cI, 6, .inl PL_us)), ((aPL 12), .inl (cI, 6, .inl PL_them)), ((aFL 2), .inl (cI, 64, .inl FL_far)), ((aFO 2), .inl (cI, 5, .inl o29_nFOknown)), ((aFO 0), .inl (cI, 400, .inl FO_steps)), ((aFO 1), .inl (cI, 61, .inl o29_nFOstack))]) hP hD [2, 1, 3, 4, 5, 6, 7, 8, 9, 10, 11] [0, 12, 13, 14, 15, 16, 17, 18, 19, 20, 21, 22, 23, 24, 25, 26, 27, 28, 29, 30, 31, 32, 33, 34, 35, 36, 37, 38, 39, 40, 41, 42, 43, 44, 45, 46, 47, 48, 49, 50, 51, 52, 53] rfl rfl (by decide) (by decide) hk9 hFc hP1 hD1
    clear hz9 hPc hDc hP1 hD1 hk9 hFc ht9 hvm9 u9 t9
    generalize H1 = H at hP hS ⊢
    replace hP : va_P D classes ([(SO, .inr (11, oX11 PL DR TA RE FL RO HU ME TR NI)), (ME, .inr (3, oX3 FL aME ME_oldest ME_done ME_undone)), ((aME 1), .inl (cI, 32, .inl o29_nrowf)), (FL, .inr (0, oX0 PL aFL FL_parting)), (PL, .inr (5, oX5 FO aPL PL_rooms PL_doors PL_things PL_draw PL_drawTold)), (FO, .inr (1, oX1 aFO FO_size FO_units FO_told)), ((aPL 11), .inl (cI, 6, .inl PL_us)), ((aPL 12), .inl (cI, 6, .inl PL_them)), ((aFL 2), .inl (cI, 64, .inl FL_far)), ((aFO 2), .inl (cI, 5, .inl o29_nFOknown)), ((aFO 0), .inl (cI, 400, .inl FO_steps)), ((aFO 1), .inl (cI, 61, .inl o29_nFOstack)), ((aME 3), .inl (cG, 41, .inr (.inr (.inr (.inr ME_kept)))))] ++ rw41 cI KRr KRf) H := hP.sub [0, 44, 43, 45, 46, 47, 48, 49, 50, 51, 52, 53, 1, 2, 3, 4, 5, 6, 7, 8, 9, 10, 11, 12, 13, 14, 15, 16, 17, 18, 19, 20, 21, 22, 23, 24, 25, 26, 27, 28, 29, 30, 31, 32, 33, 34, 35, 36, 37, 38, 39, 40, 41, 42] rfl
    replace hD : va_D A ([(SO, .inr (11, oX11 PL DR TA RE FL RO HU ME TR NI)), (ME, .inr (3, oX3 FL aME ME_oldest ME_done ME_undone)), ((aME 1), .inl (cI, 32, .inl o29_nrowf)), (FL, .inr (0, oX0 PL aFL FL_parting)), (PL, .inr (5, oX5 FO aPL PL_rooms PL_doors PL_things PL_draw PL_drawTold)), (FO, .inr (1, oX1 aFO FO_size FO_units FO_told)), ((aPL 11), .inl (cI, 6, .inl PL_us)), ((aPL 12), .inl (cI, 6, .inl PL_them)), ((aFL 2), .inl (cI, 64, .inl FL_far)), ((aFO 2), .inl (cI, 5, .inl o29_nFOknown)), ((aFO 0), .inl (cI, 400, .inl FO_steps)), ((aFO 1), .inl (cI, 61, .inl o29_nFOstack)), ((aME 3), .inl (cG, 41, .inr (.inr (.inr (.inr ME_kept)))))] ++ rw41 cI KRr KRf) := hD.sub [0, 44, 43, 45, 46, 47, 48, 49, 50, 51, 52, 53, 1, 2, 3, 4, 5, 6, 7, 8, 9, 10, 11, 12, 13, 14, 15, 16, 17, 18, 19, 20, 21, 22, 23, 24, 25, 26, 27, 28, 29, 30, 31, 32, 33, 34, 35, 36, 37, 38, 39, 40, 41, 42] (by decide) rfl
    refine lv_istore_n (lv' := [(1, .int r29), (0, .ref SO)]) hx hb dX11_day_32 rfl hl (by decide) rfl (fun ls hl => ?_)
    refine lv_aload_n hx hb dX11_day_33 rfl (lv_at hl 1 rfl) ?_
    refine va_get (D := D) (ci := 11) (v := .ref ME) (C := RX11) (T := TX11) (N := 10) hx hb hts iw_X11_day_X11 hown hK hP 0 rfl rfl 7 (by decide) (hts (.fieldLink RX11 63 "SoldHouse" "memory" "LSoldHouse$Memory;") (List.mem_of_getElem? (i := 1) rfl)) (fun _ h9 => h9) rfl dX11_day_34 ?_
    have hPc := hP.sub (ws' := ([(ME, .inr (3, oX3 FL aME ME_oldest ME_done ME_undone)), ((aME 3), .inl (cG, 41, .inr (.inr (.inr (.inr ME_kept))))), ((aME 1), .inl (cI, 32, .inl o29_nrowf))] ++ rw41 cI KRr KRf)) [1, 12, 2, 13, 14, 15, 16, 17, 18, 19, 20, 21, 22, 23, 24, 25, 26, 27, 28, 29, 30, 31, 32, 33, 34, 35, 36, 37, 38, 39, 40, 41, 42, 43, 44, 45, 46, 47, 48, 49, 50, 51, 52, 53] rfl
    have hDc := hD.sub (ws' := ([(ME, .inr (3, oX3 FL aME ME_oldest ME_done ME_undone)), ((aME 3), .inl (cG, 41, .inr (.inr (.inr (.inr ME_kept))))), ((aME 1), .inl (cI, 32, .inl o29_nrowf))] ++ rw41 cI KRr KRf)) [1, 12, 2, 13, 14, 15, 16, 17, 18, 19, 20, 21, 22, 23, 24, 25, 26, 27, 28, 29, 30, 31, 32, 33, 34, 35, 36, 37, 38, 39, 40, 41, 42, 43, 44, 45, 46, 47, 48, 49, 50, 51, 52, 53] (by decide) rfl
    have hFc := va_free (wc := ([(ME, .inr (3, oX3 FL aME ME_oldest ME_done ME_undone)), ((aME 3), .inl (cG, 41, .inr (.inr (.inr (.inr ME_kept))))), ((aME 1), .inl (cI, 32, .inl o29_nrowf))] ++ rw41 cI KRr KRf)) hD hS hA [1, 12, 2, 13, 14, 15, 16, 17, 18, 19, 20, 21, 22, 23, 24, 25, 26, 27, 28, 29, 30, 31, 32, 33, 34, 35, 36, 37, 38, 39, 40, 41, 42, 43, 44, 45, 46, 47, 48, 49, 50, 51, 52, 53] rfl
    refine va_callv (va_runV (As := []) (rest := []) ⟨hx, hb, hml, hown, hts⟩ (c_X3_keepAct l D cI cB cL cZ cG ME FL aME ME_oldest ME_done ME_undone ME_kept KRr o29_nrowf KRf H.size b_ME_oldest b_ME_done b_ME_undone k_ME_kept so29_nrowf_0 w_KR) (cwV 0 hts gX11_day_X3_keepAct rfl rfl rfl (by decide +kernel) ⟨Nat.le_of_ble_eq_true rfl, Nat.le_of_ble_eq_true rfl⟩) ⟨xp_blind, va_recv hK hP (ci := 3) (q0 := 1) rfl rfl, fun U hU hW => xp_mk hU hW hPc hK hDc xNw_nil⟩ rfl rfl hl.1 rfl (lv_room (Nat.le_of_ble_eq_true rfl)) dX11_day_37 ⟨Nat.le_of_ble_eq_true rfl, Nat.le_of_ble_eq_true rfl⟩) hS (fun q _ h => hFc q h) hFc (fun u9 t9 H1 locs ht9 hvm9 hr37 hB9 hz9 hk9 hS => ?_)
    obtain ⟨o37_nME_oldest, o37_nME_done, o37_nME_undone, o37_nKRf, bo37_nME_oldest, bo37_nME_done, bo37_nME_undone, wo37_nKRf, hP1, hD1⟩ := hB9
    rw [ht9] at hP1
    obtain ⟨hP, hD⟩ := va_join (wr := [(SO, .inr (11, oX11 PL DR TA RE FL RO HU ME TR NI)), (FL, .inr (0, oX0 PL aFL FL_parting)), (PL, .inr (5, oX5 FO aPL PL_rooms PL_doors PL_things PL_draw PL_drawTold)), (FO, .inr (1, oX1 aFO FO_size FO_units FO_told)), ((aPL 11), .inl (cI, 6, .inl PL_us)), ((aPL 12), .inl (cI, 6, .inl PL_them)), ((aFL 2), .inl (cI, 64, .inl FL_far)), ((aFO 2), .inl (cI, 5, .inl o29_nFOknown)), ((aFO 0), .inl (cI, 400, .inl FO_steps)), ((aFO 1), .inl (cI, 61, .inl o29_nFOstack))]) (w1 := ([(ME, .inr (3, oX3 FL aME o37_nME_oldest o37_nME_done o37_nME_undone)), ((aME 3), .inl (cG, 41, .inr (.inr (.inr (.inr ME_kept))))), ((aME 1), .inl (cI, 32, .inl o29_nrowf))] ++ rw41 cI KRr o37_nKRf)) hP hD [1, 12, 2, 13, 14, 15, 16, 17, 18, 19, 20, 21, 22, 23, 24, 25, 26, 27, 28, 29, 30, 31, 32, 33, 34, 35, 36, 37, 38, 39, 40, 41, 42, 43, 44, 45, 46, 47, 48, 49, 50, 51, 52, 53] [0, 3, 4, 5, 6, 7, 8, 9, 10, 11] rfl rfl (by decide) (by decide) hk9 hFc hP1 hD1
    clear hz9 hPc hDc hP1 hD1 hk9 hFc ht9 hvm9 u9 t9
    generalize H1 = H at hP hS ⊢
    replace hP : va_P D classes ([(SO, .inr (11, oX11 PL DR TA RE FL RO HU ME TR NI)), (ME, .inr (3, oX3 FL aME o37_nME_oldest o37_nME_done o37_nME_undone)), ((aME 1), .inl (cI, 32, .inl o29_nrowf)), (FL, .inr (0, oX0 PL aFL FL_parting)), (PL, .inr (5, oX5 FO aPL PL_rooms PL_doors PL_things PL_draw PL_drawTold)), (FO, .inr (1, oX1 aFO FO_size FO_units FO_told)), ((aPL 11), .inl (cI, 6, .inl PL_us)), ((aPL 12), .inl (cI, 6, .inl PL_them)), ((aFL 2), .inl (cI, 64, .inl FL_far)), ((aFO 2), .inl (cI, 5, .inl o29_nFOknown)), ((aFO 0), .inl (cI, 400, .inl FO_steps)), ((aFO 1), .inl (cI, 61, .inl o29_nFOstack)), ((aME 3), .inl (cG, 41, .inr (.inr (.inr (.inr ME_kept)))))] ++ rw41 cI KRr o37_nKRf) H := hP.sub [0, 10, 12, 1, 2, 3, 4, 5, 6, 7, 8, 9, 11, 13, 14, 15, 16, 17, 18, 19, 20, 21, 22, 23, 24, 25, 26, 27, 28, 29, 30, 31, 32, 33, 34, 35, 36, 37, 38, 39, 40, 41, 42, 43, 44, 45, 46, 47, 48, 49, 50, 51, 52, 53] rfl
    replace hD : va_D A ([(SO, .inr (11, oX11 PL DR TA RE FL RO HU ME TR NI)), (ME, .inr (3, oX3 FL aME o37_nME_oldest o37_nME_done o37_nME_undone)), ((aME 1), .inl (cI, 32, .inl o29_nrowf)), (FL, .inr (0, oX0 PL aFL FL_parting)), (PL, .inr (5, oX5 FO aPL PL_rooms PL_doors PL_things PL_draw PL_drawTold)), (FO, .inr (1, oX1 aFO FO_size FO_units FO_told)), ((aPL 11), .inl (cI, 6, .inl PL_us)), ((aPL 12), .inl (cI, 6, .inl PL_them)), ((aFL 2), .inl (cI, 64, .inl FL_far)), ((aFO 2), .inl (cI, 5, .inl o29_nFOknown)), ((aFO 0), .inl (cI, 400, .inl FO_steps)), ((aFO 1), .inl (cI, 61, .inl o29_nFOstack)), ((aME 3), .inl (cG, 41, .inr (.inr (.inr (.inr ME_kept)))))] ++ rw41 cI KRr o37_nKRf) := hD.sub [0, 10, 12, 1, 2, 3, 4, 5, 6, 7, 8, 9, 11, 13, 14, 15, 16, 17, 18, 19, 20, 21, 22, 23, 24, 25, 26, 27, 28, 29, 30, 31, 32, 33, 34, 35, 36, 37, 38, 39, 40, 41, 42, 43, 44, 45, 46, 47, 48, 49, 50, 51, 52, 53] (by decide) rfl
    refine lv_iload_n hx hb dX11_day_40 rfl (lv_at hl 0 rfl) ?_
    exact W.iret (v := r29) hx hb hr (fun t ht hW => ⟨⟨r29, (), rfl, (zB_w hr29 (by decide) (by decide)), ⟨o37_nME_oldest, o37_nME_done, o37_nME_undone, o29_nrowf, o29_nFOknown, o29_nFOstack, o37_nKRf, bo37_nME_oldest, (zB_w bo37_nME_done (by decide) (by decide)), (zB_w bo37_nME_undone (by decide) (by decide)), so29_nrowf_0, wo37_nKRf, (by have h9_0 := (bo37_nME_done).1; have h9_1 := (bo37_nME_done).2; have h9_2 := (bo37_nME_undone).1; have h9_3 := (bo37_nME_undone).2; have h9_4 := q_ME; omega), by rw [ht]; exact hP, hD⟩⟩, hS.F ht⟩) hS.2.2 dX11_day_41
  · have by13f_y9 : zB y9 999 2147483647 := zB_lev (zg c13) (show zB 999 999 999 from ⟨by decide, by decide⟩) (zB_top y9) (by decide)
    refine lv_iconst (v := (-1)) hx hb dX11_day_16 (by decide) ?_
    exact W.iret (v := (-1)) hx hb hr (fun t ht hW => ⟨⟨(-1), (), rfl, (zB_w (show zB (-1) (-1) (-1) from ⟨by decide, by decide⟩) (by decide) (by decide)), ⟨ME_oldest, ME_done, ME_undone, ME_now, FO_known, FO_stack, KRf, b_ME_oldest, b_ME_done, b_ME_undone, s_ME_now_0, w_KR, q_ME, by rw [ht]; exact hP, hD⟩⟩, hS.F ht⟩) hS.2.2 dX11_day_17
set_option maxHeartbeats 4000000 in
set_option maxRecDepth 100000 in
theorem c_X11_undo (l : Launch) (D : va_G) (cI : ClassId) (cB : ClassId) (cL : ClassId) (cZ : ClassId) (cG : ClassId) (SO : Nat) (PL : Nat) (DR : Nat) (TA : Nat) (RE : Nat) (FL : Nat) (RO : Nat) (HU : Nat) (ME : Nat) (TR : Nat) (NI : Nat) (aME : Nat → Nat) (ME_oldest : Int32) (ME_done : Int32) (ME_undone : Int32) (ME_kept : Nat → Option Nat) (KRr : Nat → Nat) (ME_now : Nat → Int32) (KRf : Nat → Nat → Int32) (sz : Nat) (q_ME : ME_done.toInt + ME_undone.toInt ≤ 40) (b_ME_oldest : zB ME_oldest 0 40) (b_ME_done : zB ME_done 0 40) (b_ME_undone : zB ME_undone 0 40) (k_ME_kept : ∀ j, j < 41 → ME_kept j = some (KRr j)) (s_ME_now_0 : zA ME_now 0 12 0 7) (w_KR : ∀ j, j < 41 → zA (KRf j) 0 12 0 7) : Met l yX11_undo wsX11_undo ({ frames := 2, cells := 0, slots := 0, locals := 60 }) (xp D [(cI, .int), (cB, .byte), (cL, .long), (cZ, .boolean), (cG, .array .int)] ([(SO, .inr (11, oX11 PL DR TA RE FL RO HU ME TR NI)), (ME, .inr (3, oX3 FL aME ME_oldest ME_done ME_undone)), ((aME 3), .inl (cG, 41, .inr (.inr (.inr (.inr ME_kept))))), ((aME 1), .inl (cI, 32, .inl ME_now))] ++ rw41 cI KRr KRf) sz [] [.ref SO]) (va_Qi (fun (r : Int32) (_ : Unit) => zB r 0 1) (fun (_ : Unit) (t : State) => ∃ (nME_done : Int32), ∃ (nME_undone : Int32), ∃ (nMEnow : Nat → Int32), zB nME_done 0 39 ∧ zB nME_undone 0 40 ∧ zA nMEnow 0 12 0 7 ∧ nME_done.toInt + nME_undone.toInt ≤ 40 ∧ xB D (va_A ([(SO, .inr (11, oX11 PL DR TA RE FL RO HU ME TR NI)), (ME, .inr (3, oX3 FL aME ME_oldest ME_done ME_undone)), ((aME 3), .inl (cG, 41, .inr (.inr (.inr (.inr ME_kept))))), ((aME 1), .inl (cI, 32, .inl ME_now))] ++ rw41 cI KRr KRf) sz) ([(SO, .inr (11, oX11 PL DR TA RE FL RO HU ME TR NI)), (ME, .inr (3, oX3 FL aME ME_oldest nME_done nME_undone)), ((aME 3), .inl (cG, 41, .inr (.inr (.inr (.inr ME_kept))))), ((aME 1), .inl (cI, 32, .inl nMEnow))] ++ rw41 cI KRr KRf) t) (va_A ([(SO, .inr (11, oX11 PL DR TA RE FL RO HU ME TR NI)), (ME, .inr (3, oX3 FL aME ME_oldest ME_done ME_undone)), ((aME 3), .inl (cG, 41, .inr (.inr (.inr (.inr ME_kept))))), ((aME 1), .inl (cI, 32, .inl ME_now))] ++ rw41 cI KRr KRf) sz)) 0 0 (va_A ([(SO, .inr (11, oX11 PL DR TA RE FL RO HU ME TR NI)), (ME, .inr (3, oX3 FL aME ME_oldest ME_done ME_undone)), ((aME 3), .inl (cG, 41, .inr (.inr (.inr (.inr ME_kept))))), ((aME 1), .inl (cI, 32, .inl ME_now))] ++ rw41 cI KRr KRf) sz) := by
  refine Met.ofW (cc := cX11_undo) (maxL := 1) (ret := (some .boolean)) (by decide) rfl ?_
  intro p e s m args below meth c s₁ B hml hv
  obtain ⟨rfl, hsz, hP, hK, hD0, hNw⟩ := hv
  have hx := B.exec
  have hb := B.bytes
  have hr := B.returns
  have hts := atoms_spec (ws := wsX11_undo) B.pre
  have hown : s.vm.findClass RX11 = some m.cls := findClass_of_methodNamed B.named
  have hlocks := B.notSynchronized
  clear B
  subst hsz
  have hD := hD0.self (sz := s.heap.size)
  clear hD0 hNw
  generalize hAe : va_A ([(SO, .inr (11, oX11 PL DR TA RE FL RO HU ME TR NI)), (ME, .inr (3, oX3 FL aME ME_oldest ME_done ME_undone)), ((aME 3), .inl (cG, 41, .inr (.inr (.inr (.inr ME_kept))))), ((aME 1), .inl (cI, 32, .inl ME_now))] ++ rw41 cI KRr KRf) s.heap.size = A at hD ⊢
  have hA : ∀ q : Nat, s.heap.size ≤ q → A q := fun q h => by rw [← hAe]; exact Or.inr h
  have hS : va_S A s.heap s.heap [] := va_S.rf
  clear hAe
  obtain ⟨H, hH⟩ : ∃ H : Heap, H = s.heap := ⟨_, rfl⟩
  obtain ⟨locs, hlocs⟩ : ∃ L : List Loc, L = [] := ⟨_, rfl⟩
  replace hP : va_P D classes ([(SO, .inr (11, oX11 PL DR TA RE FL RO HU ME TR NI)), (ME, .inr (3, oX3 FL aME ME_oldest ME_done ME_undone)), ((aME 3), .inl (cG, 41, .inr (.inr (.inr (.inr ME_kept))))), ((aME 1), .inl (cI, 32, .inl ME_now))] ++ rw41 cI KRr KRf) H := by rw [hH]; exact hP
  replace hS : va_S A s.heap H locs := by rw [hH, hlocs]; exact hS
  rw [← hH, ← hlocs]
  clear hlocs hH
  have hl := lv_entry ([.ref SO]) (n := 1) (Nat.le_of_ble_eq_true rfl)
  rw [lg_entry_eq]
  generalize (lg_sl ([.ref SO]) ++ List.replicate (1 - (lg_sl ([.ref SO])).length) Slot.unset).toArray = ls at hl ⊢
  replace hl : lv_has ls 1 [(0, .ref SO)] := hl
  refine lv_aload_n hx hb dX11_undo_0 rfl (lv_at hl 0 rfl) ?_
  refine va_get (D := D) (ci := 11) (v := .ref ME) (C := RX11) (T := TX11) (N := 10) hx hb hts iw_X11_undo_X11 hown hK hP 0 rfl rfl 7 (by decide) (hts (.fieldLink RX11 63 "SoldHouse" "memory" "LSoldHouse$Memory;") (List.mem_of_getElem? (i := 1) rfl)) (fun _ h9 => h9) rfl dX11_undo_1 ?_
  have hPc := hP.sub (ws' := ([(ME, .inr (3, oX3 FL aME ME_oldest ME_done ME_undone)), ((aME 3), .inl (cG, 41, .inr (.inr (.inr (.inr ME_kept))))), ((aME 1), .inl (cI, 32, .inl ME_now))] ++ rw41 cI KRr KRf)) [1, 2, 3, 4, 5, 6, 7, 8, 9, 10, 11, 12, 13, 14, 15, 16, 17, 18, 19, 20, 21, 22, 23, 24, 25, 26, 27, 28, 29, 30, 31, 32, 33, 34, 35, 36, 37, 38, 39, 40, 41, 42, 43, 44] rfl
  have hDc := hD.sub (ws' := ([(ME, .inr (3, oX3 FL aME ME_oldest ME_done ME_undone)), ((aME 3), .inl (cG, 41, .inr (.inr (.inr (.inr ME_kept))))), ((aME 1), .inl (cI, 32, .inl ME_now))] ++ rw41 cI KRr KRf)) [1, 2, 3, 4, 5, 6, 7, 8, 9, 10, 11, 12, 13, 14, 15, 16, 17, 18, 19, 20, 21, 22, 23, 24, 25, 26, 27, 28, 29, 30, 31, 32, 33, 34, 35, 36, 37, 38, 39, 40, 41, 42, 43, 44] (by decide) rfl
  have hFc := va_free (wc := ([(ME, .inr (3, oX3 FL aME ME_oldest ME_done ME_undone)), ((aME 3), .inl (cG, 41, .inr (.inr (.inr (.inr ME_kept))))), ((aME 1), .inl (cI, 32, .inl ME_now))] ++ rw41 cI KRr KRf)) hD hS hA [1, 2, 3, 4, 5, 6, 7, 8, 9, 10, 11, 12, 13, 14, 15, 16, 17, 18, 19, 20, 21, 22, 23, 24, 25, 26, 27, 28, 29, 30, 31, 32, 33, 34, 35, 36, 37, 38, 39, 40, 41, 42, 43, 44] rfl
  refine va_calli (va_runV (As := []) (rest := []) ⟨hx, hb, hml, hown, hts⟩ (c_X3_stepBack l D cI cB cL cZ cG ME FL aME ME_oldest ME_done ME_undone ME_kept KRr KRf ME_now H.size q_ME b_ME_oldest b_ME_done b_ME_undone k_ME_kept s_ME_now_0 w_KR) (cwV 0 hts gX11_undo_X3_stepBack rfl rfl rfl (by decide +kernel) ⟨Nat.le_of_ble_eq_true rfl, Nat.le_of_ble_eq_true rfl⟩) ⟨xp_blind, va_recv hK hP (ci := 3) (q0 := 1) rfl rfl, fun U hU hW => xp_mk hU hW hPc hK hDc xNw_nil⟩ rfl rfl hl.1 rfl (lv_room (Nat.le_of_ble_eq_true rfl)) dX11_undo_4 ⟨Nat.le_of_ble_eq_true rfl, Nat.le_of_ble_eq_true rfl⟩) hS (fun q _ h => hFc q h) hFc (fun r4 u9 t9 H1 locs ht9 hvm9 hr4 hB9 hz9 hk9 hS => ?_)
  obtain ⟨o4_nME_done, o4_nME_undone, o4_nMEnow, bo4_nME_done, bo4_nME_undone, so4_nMEnow_0, q4, hP1, hD1⟩ := hB9
  rw [ht9] at hP1
  obtain ⟨hP, hD⟩ := va_join (wr := [(SO, .inr (11, oX11 PL DR TA RE FL RO HU ME TR NI))]) (w1 := ([(ME, .inr (3, oX3 FL aME ME_oldest o4_nME_done o4_nME_undone)), ((aME 3), .inl (cG, 41, .inr (.inr (.inr (.inr ME_kept))))), ((aME 1), .inl (cI, 32, .inl o4_nMEnow))] ++ rw41 cI KRr KRf)) hP hD [1, 2, 3, 4, 5, 6, 7, 8, 9, 10, 11, 12, 13, 14, 15, 16, 17, 18, 19, 20, 21, 22, 23, 24, 25, 26, 27, 28, 29, 30, 31, 32, 33, 34, 35, 36, 37, 38, 39, 40, 41, 42, 43, 44] [0] rfl rfl (by decide) (by decide) hk9 hFc hP1 hD1
  clear hz9 hPc hDc hP1 hD1 hk9 hFc ht9 hvm9 u9 t9
  generalize H1 = H at hP hS ⊢
  replace hP : va_P D classes ([(SO, .inr (11, oX11 PL DR TA RE FL RO HU ME TR NI)), (ME, .inr (3, oX3 FL aME ME_oldest o4_nME_done o4_nME_undone)), ((aME 3), .inl (cG, 41, .inr (.inr (.inr (.inr ME_kept))))), ((aME 1), .inl (cI, 32, .inl o4_nMEnow))] ++ rw41 cI KRr KRf) H := hP
  replace hD : va_D A ([(SO, .inr (11, oX11 PL DR TA RE FL RO HU ME TR NI)), (ME, .inr (3, oX3 FL aME ME_oldest o4_nME_done o4_nME_undone)), ((aME 3), .inl (cG, 41, .inr (.inr (.inr (.inr ME_kept))))), ((aME 1), .inl (cI, 32, .inl o4_nMEnow))] ++ rw41 cI KRr KRf) := hD
  rcases zB_01 hr4 with rfl | rfl
  · exact W.zret (v := 0) (ty := .boolean) hx hb hr (by decide) (fun t ht hW => ⟨⟨0, (), rfl, (zB_w (show zB 0 0 0 from ⟨by decide, by decide⟩) (by decide) (by decide)), ⟨o4_nME_done, o4_nME_undone, o4_nMEnow, bo4_nME_done, bo4_nME_undone, so4_nMEnow_0, q4, by rw [ht]; exact hP, hD⟩⟩, hS.F ht⟩) hS.2.2 dX11_undo_7
  · exact W.zret (v := 1) (ty := .boolean) hx hb hr (by decide) (fun t ht hW => ⟨⟨1, (), rfl, (zB_w (show zB 1 1 1 from ⟨by decide, by decide⟩) (by decide) (by decide)), ⟨o4_nME_done, o4_nME_undone, o4_nMEnow, bo4_nME_done, bo4_nME_undone, so4_nMEnow_0, q4, by rw [ht]; exact hP, hD⟩⟩, hS.F ht⟩) hS.2.2 dX11_undo_7
set_option maxHeartbeats 4000000 in
set_option maxRecDepth 100000 in
theorem c_X11_redo (l : Launch) (D : va_G) (cI : ClassId) (cB : ClassId) (cL : ClassId) (cZ : ClassId) (cG : ClassId) (SO : Nat) (PL : Nat) (DR : Nat) (TA : Nat) (RE : Nat) (FL : Nat) (RO : Nat) (HU : Nat) (ME : Nat) (TR : Nat) (NI : Nat) (aME : Nat → Nat) (ME_oldest : Int32) (ME_done : Int32) (ME_undone : Int32) (ME_kept : Nat → Option Nat) (KRr : Nat → Nat) (ME_now : Nat → Int32) (KRf : Nat → Nat → Int32) (sz : Nat) (q_ME : ME_done.toInt + ME_undone.toInt ≤ 40) (b_ME_oldest : zB ME_oldest 0 40) (b_ME_done : zB ME_done 0 40) (b_ME_undone : zB ME_undone 0 40) (k_ME_kept : ∀ j, j < 41 → ME_kept j = some (KRr j)) (s_ME_now_0 : zA ME_now 0 12 0 7) (w_KR : ∀ j, j < 41 → zA (KRf j) 0 12 0 7) : Met l yX11_redo wsX11_redo ({ frames := 2, cells := 0, slots := 0, locals := 60 }) (xp D [(cI, .int), (cB, .byte), (cL, .long), (cZ, .boolean), (cG, .array .int)] ([(SO, .inr (11, oX11 PL DR TA RE FL RO HU ME TR NI)), (ME, .inr (3, oX3 FL aME ME_oldest ME_done ME_undone)), ((aME 3), .inl (cG, 41, .inr (.inr (.inr (.inr ME_kept))))), ((aME 1), .inl (cI, 32, .inl ME_now))] ++ rw41 cI KRr KRf) sz [] [.ref SO]) (va_Qi (fun (r : Int32) (_ : Unit) => zB r 0 1) (fun (_ : Unit) (t : State) => ∃ (nME_done : Int32), ∃ (nME_undone : Int32), ∃ (nMEnow : Nat → Int32), zB nME_done 0 40 ∧ zB nME_undone 0 39 ∧ zA nMEnow 0 12 0 7 ∧ nME_done.toInt + nME_undone.toInt ≤ 40 ∧ xB D (va_A ([(SO, .inr (11, oX11 PL DR TA RE FL RO HU ME TR NI)), (ME, .inr (3, oX3 FL aME ME_oldest ME_done ME_undone)), ((aME 3), .inl (cG, 41, .inr (.inr (.inr (.inr ME_kept))))), ((aME 1), .inl (cI, 32, .inl ME_now))] ++ rw41 cI KRr KRf) sz) ([(SO, .inr (11, oX11 PL DR TA RE FL RO HU ME TR NI)), (ME, .inr (3, oX3 FL aME ME_oldest nME_done nME_undone)), ((aME 3), .inl (cG, 41, .inr (.inr (.inr (.inr ME_kept))))), ((aME 1), .inl (cI, 32, .inl nMEnow))] ++ rw41 cI KRr KRf) t) (va_A ([(SO, .inr (11, oX11 PL DR TA RE FL RO HU ME TR NI)), (ME, .inr (3, oX3 FL aME ME_oldest ME_done ME_undone)), ((aME 3), .inl (cG, 41, .inr (.inr (.inr (.inr ME_kept))))), ((aME 1), .inl (cI, 32, .inl ME_now))] ++ rw41 cI KRr KRf) sz)) 0 0 (va_A ([(SO, .inr (11, oX11 PL DR TA RE FL RO HU ME TR NI)), (ME, .inr (3, oX3 FL aME ME_oldest ME_done ME_undone)), ((aME 3), .inl (cG, 41, .inr (.inr (.inr (.inr ME_kept))))), ((aME 1), .inl (cI, 32, .inl ME_now))] ++ rw41 cI KRr KRf) sz) := by
  refine Met.ofW (cc := cX11_redo) (maxL := 1) (ret := (some .boolean)) (by decide) rfl ?_
  intro p e s m args below meth c s₁ B hml hv
  obtain ⟨rfl, hsz, hP, hK, hD0, hNw⟩ := hv
  have hx := B.exec
  have hb := B.bytes
  have hr := B.returns
  have hts := atoms_spec (ws := wsX11_redo) B.pre
  have hown : s.vm.findClass RX11 = some m.cls := findClass_of_methodNamed B.named
  have hlocks := B.notSynchronized
  clear B
  subst hsz
  have hD := hD0.self (sz := s.heap.size)
  clear hD0 hNw
  generalize hAe : va_A ([(SO, .inr (11, oX11 PL DR TA RE FL RO HU ME TR NI)), (ME, .inr (3, oX3 FL aME ME_oldest ME_done ME_undone)), ((aME 3), .inl (cG, 41, .inr (.inr (.inr (.inr ME_kept))))), ((aME 1), .inl (cI, 32, .inl ME_now))] ++ rw41 cI KRr KRf) s.heap.size = A at hD ⊢
  have hA : ∀ q : Nat, s.heap.size ≤ q → A q := fun q h => by rw [← hAe]; exact Or.inr h
  have hS : va_S A s.heap s.heap [] := va_S.rf
  clear hAe
  obtain ⟨H, hH⟩ : ∃ H : Heap, H = s.heap := ⟨_, rfl⟩
  obtain ⟨locs, hlocs⟩ : ∃ L : List Loc, L = [] := ⟨_, rfl⟩
  replace hP : va_P D classes ([(SO, .inr (11, oX11 PL DR TA RE FL RO HU ME TR NI)), (ME, .inr (3, oX3 FL aME ME_oldest ME_done ME_undone)), ((aME 3), .inl (cG, 41, .inr (.inr (.inr (.inr ME_kept))))), ((aME 1), .inl (cI, 32, .inl ME_now))] ++ rw41 cI KRr KRf) H := by rw [hH]; exact hP
  replace hS : va_S A s.heap H locs := by rw [hH, hlocs]; exact hS
  rw [← hH, ← hlocs]
  clear hlocs hH
  have hl := lv_entry ([.ref SO]) (n := 1) (Nat.le_of_ble_eq_true rfl)
  rw [lg_entry_eq]
  generalize (lg_sl ([.ref SO]) ++ List.replicate (1 - (lg_sl ([.ref SO])).length) Slot.unset).toArray = ls at hl ⊢
  replace hl : lv_has ls 1 [(0, .ref SO)] := hl
  refine lv_aload_n hx hb dX11_redo_0 rfl (lv_at hl 0 rfl) ?_
  refine va_get (D := D) (ci := 11) (v := .ref ME) (C := RX11) (T := TX11) (N := 10) hx hb hts iw_X11_redo_X11 hown hK hP 0 rfl rfl 7 (by decide) (hts (.fieldLink RX11 63 "SoldHouse" "memory" "LSoldHouse$Memory;") (List.mem_of_getElem? (i := 1) rfl)) (fun _ h9 => h9) rfl dX11_redo_1 ?_
  have hPc := hP.sub (ws' := ([(ME, .inr (3, oX3 FL aME ME_oldest ME_done ME_undone)), ((aME 3), .inl (cG, 41, .inr (.inr (.inr (.inr ME_kept))))), ((aME 1), .inl (cI, 32, .inl ME_now))] ++ rw41 cI KRr KRf)) [1, 2, 3, 4, 5, 6, 7, 8, 9, 10, 11, 12, 13, 14, 15, 16, 17, 18, 19, 20, 21, 22, 23, 24, 25, 26, 27, 28, 29, 30, 31, 32, 33, 34, 35, 36, 37, 38, 39, 40, 41, 42, 43, 44] rfl
  have hDc := hD.sub (ws' := ([(ME, .inr (3, oX3 FL aME ME_oldest ME_done ME_undone)), ((aME 3), .inl (cG, 41, .inr (.inr (.inr (.inr ME_kept))))), ((aME 1), .inl (cI, 32, .inl ME_now))] ++ rw41 cI KRr KRf)) [1, 2, 3, 4, 5, 6, 7, 8, 9, 10, 11, 12, 13, 14, 15, 16, 17, 18, 19, 20, 21, 22, 23, 24, 25, 26, 27, 28, 29, 30, 31, 32, 33, 34, 35, 36, 37, 38, 39, 40, 41, 42, 43, 44] (by decide) rfl
  have hFc := va_free (wc := ([(ME, .inr (3, oX3 FL aME ME_oldest ME_done ME_undone)), ((aME 3), .inl (cG, 41, .inr (.inr (.inr (.inr ME_kept))))), ((aME 1), .inl (cI, 32, .inl ME_now))] ++ rw41 cI KRr KRf)) hD hS hA [1, 2, 3, 4, 5, 6, 7, 8, 9, 10, 11, 12, 13, 14, 15, 16, 17, 18, 19, 20, 21, 22, 23, 24, 25, 26, 27, 28, 29, 30, 31, 32, 33, 34, 35, 36, 37, 38, 39, 40, 41, 42, 43, 44] rfl
  refine va_calli (va_runV (As := []) (rest := []) ⟨hx, hb, hml, hown, hts⟩ (c_X3_stepOn l D cI cB cL cZ cG ME FL aME ME_oldest ME_done ME_undone ME_kept KRr KRf ME_now H.size q_ME b_ME_oldest b_ME_done b_ME_undone k_ME_kept s_ME_now_0 w_KR) (cwV 0 hts gX11_redo_X3_stepOn rfl rfl rfl (by decide +kernel) ⟨Nat.le_of_ble_eq_true rfl, Nat.le_of_ble_eq_true rfl⟩) ⟨xp_blind, va_recv hK hP (ci := 3) (q0 := 1) rfl rfl, fun U hU hW => xp_mk hU hW hPc hK hDc xNw_nil⟩ rfl rfl hl.1 rfl (lv_room (Nat.le_of_ble_eq_true rfl)) dX11_redo_4 ⟨Nat.le_of_ble_eq_true rfl, Nat.le_of_ble_eq_true rfl⟩) hS (fun q _ h => hFc q h) hFc (fun r4 u9 t9 H1 locs ht9 hvm9 hr4 hB9 hz9 hk9 hS => ?_)
  obtain ⟨o4_nME_done, o4_nME_undone, o4_nMEnow, bo4_nME_done, bo4_nME_undone, so4_nMEnow_0, q4, hP1, hD1⟩ := hB9
  rw [ht9] at hP1
  obtain ⟨hP, hD⟩ := va_join (wr := [(SO, .inr (11, oX11 PL DR TA RE FL RO HU ME TR NI))]) (w1 := ([(ME, .inr (3, oX3 FL aME ME_oldest o4_nME_done o4_nME_undone)), ((aME 3), .inl (cG, 41, .inr (.inr (.inr (.inr ME_kept))))), ((aME 1), .inl (cI, 32, .inl o4_nMEnow))] ++ rw41 cI KRr KRf)) hP hD [1, 2, 3, 4, 5, 6, 7, 8, 9, 10, 11, 12, 13, 14, 15, 16, 17, 18, 19, 20, 21, 22, 23, 24, 25, 26, 27, 28, 29, 30, 31, 32, 33, 34, 35, 36, 37, 38, 39, 40, 41, 42, 43, 44] [0] rfl rfl (by decide) (by decide) hk9 hFc hP1 hD1
  clear hz9 hPc hDc hP1 hD1 hk9 hFc ht9 hvm9 u9 t9
  generalize H1 = H at hP hS ⊢
  replace hP : va_P D classes ([(SO, .inr (11, oX11 PL DR TA RE FL RO HU ME TR NI)), (ME, .inr (3, oX3 FL aME ME_oldest o4_nME_done o4_nME_undone)), ((aME 3), .inl (cG, 41, .inr (.inr (.inr (.inr ME_kept))))), ((aME 1), .inl (cI, 32, .inl o4_nMEnow))] ++ rw41 cI KRr KRf) H := hP
  replace hD : va_D A ([(SO, .inr (11, oX11 PL DR TA RE FL RO HU ME TR NI)), (ME, .inr (3, oX3 FL aME ME_oldest o4_nME_done o4_nME_undone)), ((aME 3), .inl (cG, 41, .inr (.inr (.inr (.inr ME_kept))))), ((aME 1), .inl (cI, 32, .inl o4_nMEnow))] ++ rw41 cI KRr KRf) := hD
  rcases zB_01 hr4 with rfl | rfl
  · exact W.zret (v := 0) (ty := .boolean) hx hb hr (by decide) (fun t ht hW => ⟨⟨0, (), rfl, (zB_w (show zB 0 0 0 from ⟨by decide, by decide⟩) (by decide) (by decide)), ⟨o4_nME_done, o4_nME_undone, o4_nMEnow, bo4_nME_done, bo4_nME_undone, so4_nMEnow_0, q4, by rw [ht]; exact hP, hD⟩⟩, hS.F ht⟩) hS.2.2 dX11_redo_7
  · exact W.zret (v := 1) (ty := .boolean) hx hb hr (by decide) (fun t ht hW => ⟨⟨1, (), rfl, (zB_w (show zB 1 1 1 from ⟨by decide, by decide⟩) (by decide) (by decide)), ⟨o4_nME_done, o4_nME_undone, o4_nMEnow, bo4_nME_done, bo4_nME_undone, so4_nMEnow_0, q4, by rw [ht]; exact hP, hD⟩⟩, hS.F ht⟩) hS.2.2 dX11_redo_7
set_option maxHeartbeats 4000000 in
set_option maxRecDepth 100000 in
theorem c_X11_way (l : Launch) (D : va_G) (cI : ClassId) (cB : ClassId) (cL : ClassId) (cZ : ClassId) (cG : ClassId) (SO : Nat) (x0 : Int32) (x1 : Int32) (PL : Nat) (DR : Nat) (TA : Nat) (RE : Nat) (FL : Nat) (RO : Nat) (HU : Nat) (ME : Nat) (TR : Nat) (NI : Nat) (aRO : Nat → Nat) (RO_lying : Int32) (PL_rooms : Int32) (aPL : Nat → Nat) (PL_doors : Int32) (PL_things : Int32) (FO : Nat) (PL_draw : Int32) (PL_drawTold : Int32) (aFL : Nat → Nat) (FL_parting : Int32) (FL_far : Nat → Int32) (RO_lie : Nat → Int32) (FL_next : Nat → Int32) (sz : Nat) (b_RO_lying : zB RO_lying 0 8) (b_PL_rooms : zB PL_rooms 0 8) (b_PL_doors : zB PL_doors 0 12) (b_PL_things : zB PL_things 0 6) (s_FL_far_0 : zA FL_far 0 64 (-1) 7) : Met l yX11_way wsX11_way ({ frames := 3, cells := 0, slots := 0, locals := 71 }) (xp D [(cI, .int), (cB, .byte), (cL, .long), (cZ, .boolean), (cG, .array .int)] [(SO, .inr (11, oX11 PL DR TA RE FL RO HU ME TR NI)), (RO, .inr (7, oX7 FL aRO RO_lying)), (PL, .inr (5, oX5 FO aPL PL_rooms PL_doors PL_things PL_draw PL_drawTold)), (FL, .inr (0, oX0 PL aFL FL_parting)), ((aFL 2), .inl (cI, 64, .inl FL_far)), ((aRO 1), .inl (cI, 8, .inl RO_lie)), ((aFL 1), .inl (cI, 8, .inl FL_next))] sz [] [.ref SO, .int x0, .int x1]) (va_Qi (fun (r : Int32) (_ : Unit) => zB r (-1) 7) (fun (_ : Unit) (t : State) => ∃ (nRO_lying : Int32), ∃ (nROlie : Nat → Int32), zB nRO_lying 0 8 ∧ xB D (va_A [(SO, .inr (11, oX11 PL DR TA RE FL RO HU ME TR NI)), (RO, .inr (7, oX7 FL aRO RO_lying)), (PL, .inr (5, oX5 FO aPL PL_rooms PL_doors PL_things PL_draw PL_drawTold)), (FL, .inr (0, oX0 PL aFL FL_parting)), ((aFL 2), .inl (cI, 64, .inl FL_far)), ((aRO 1), .inl (cI, 8, .inl RO_lie)), ((aFL 1), .inl (cI, 8, .inl FL_next))] sz) [(SO, .inr (11, oX11 PL DR TA RE FL RO HU ME TR NI)), (RO, .inr (7, oX7 FL aRO nRO_lying)), (PL, .inr (5, oX5 FO aPL PL_rooms PL_doors PL_things PL_draw PL_drawTold)), (FL, .inr (0, oX0 PL aFL FL_parting)), ((aFL 2), .inl (cI, 64, .inl FL_far)), ((aRO 1), .inl (cI, 8, .inl nROlie)), ((aFL 1), .inl (cI, 8, .inl FL_next))] t) (va_A [(SO, .inr (11, oX11 PL DR TA RE FL RO HU ME TR NI)), (RO, .inr (7, oX7 FL aRO RO_lying)), (PL, .inr (5, oX5 FO aPL PL_rooms PL_doors PL_things PL_draw PL_drawTold)), (FL, .inr (0, oX0 PL aFL FL_parting)), ((aFL 2), .inl (cI, 64, .inl FL_far)), ((aRO 1), .inl (cI, 8, .inl RO_lie)), ((aFL 1), .inl (cI, 8, .inl FL_next))] sz)) 0 0 (va_A [(SO, .inr (11, oX11 PL DR TA RE FL RO HU ME TR NI)), (RO, .inr (7, oX7 FL aRO RO_lying)), (PL, .inr (5, oX5 FO aPL PL_rooms PL_doors PL_things PL_draw PL_drawTold)), (FL, .inr (0, oX0 PL aFL FL_parting)), ((aFL 2), .inl (cI, 64, .inl FL_far)), ((aRO 1), .inl (cI, 8, .inl RO_lie)), ((aFL 1), .inl (cI, 8, .inl FL_next))] sz) := by
  refine Met.ofW (cc := cX11_way) (maxL := 3) (ret := (some .int)) (by decide) rfl ?_
  intro p e s m args below meth c s₁ B hml hv
  obtain ⟨rfl, hsz, hP, hK, hD0, hNw⟩ := hv
  have hx := B.exec
  have hb := B.bytes
  have hr := B.returns
  have hts := atoms_spec (ws := wsX11_way) B.pre
  have hown : s.vm.findClass RX11 = some m.cls := findClass_of_methodNamed B.named
  have hlocks := B.notSynchronized
  clear B
  subst hsz
  have hD := hD0.self (sz := s.heap.size)
  clear hD0 hNw
  generalize hAe : va_A [(SO, .inr (11, oX11 PL DR TA RE FL RO HU ME TR NI)), (RO, .inr (7, oX7 FL aRO RO_lying)), (PL, .inr (5, oX5 FO aPL PL_rooms PL_doors PL_things PL_draw PL_drawTold)), (FL, .inr (0, oX0 PL aFL FL_parting)), ((aFL 2), .inl (cI, 64, .inl FL_far)), ((aRO 1), .inl (cI, 8, .inl RO_lie)), ((aFL 1), .inl (cI, 8, .inl FL_next))] s.heap.size = A at hD ⊢
  have hA : ∀ q : Nat, s.heap.size ≤ q → A q := fun q h => by rw [← hAe]; exact Or.inr h
  have hS : va_S A s.heap s.heap [] := va_S.rf
  clear hAe
  obtain ⟨H, hH⟩ : ∃ H : Heap, H = s.heap := ⟨_, rfl⟩
  obtain ⟨locs, hlocs⟩ : ∃ L : List Loc, L = [] := ⟨_, rfl⟩
  replace hP : va_P D classes [(SO, .inr (11, oX11 PL DR TA RE FL RO HU ME TR NI)), (RO, .inr (7, oX7 FL aRO RO_lying)), (PL, .inr (5, oX5 FO aPL PL_rooms PL_doors PL_things PL_draw PL_drawTold)), (FL, .inr (0, oX0 PL aFL FL_parting)), ((aFL 2), .inl (cI, 64, .inl FL_far)), ((aRO 1), .inl (cI, 8, .inl RO_lie)), ((aFL 1), .inl (cI, 8, .inl FL_next))] H := by rw [hH]; exact hP
  replace hS : va_S A s.heap H locs := by rw [hH, hlocs]; exact hS
  rw [← hH, ← hlocs]
  clear hlocs hH
  have hl := lv_entry ([.ref SO, .int x0, .int x1]) (n := 3) (Nat.le_of_ble_eq_true rfl)
  rw [lg_entry_eq]
  generalize (lg_sl ([.ref SO, .int x0, .int x1]) ++ List.replicate (3 - (lg_sl ([.ref SO, .int x0, .int x1])).length) Slot.unset).toArray = ls at hl ⊢
  replace hl : lv_has ls 3 [(0, .ref SO), (1, .int x0), (2, .int x1)] := hl
  refine lv_aload_n hx hb dX11_way_0 rfl (lv_at hl 0 rfl) ?_
  refine va_get (D := D) (ci := 11) (v := .ref RO) (C := RX11) (T := TX11) (N := 10) hx hb hts iw_X11_way_X11 hown hK hP 0 rfl rfl 5 (by decide) (hts (.fieldLink RX11 49 "SoldHouse" "routes" "LSoldHouse$Routes;") (List.mem_of_getElem? (i := 1) rfl)) (fun _ h9 => h9) rfl dX11_way_1 ?_
  refine lv_iconst (v := 0) hx hb dX11_way_4 (by decide) ?_
  refine va_put (D := D) (ci := 7) (v := .int 0) (ty := tyX7 2) (C := RX7) (T := TX7) (N := 5) hx hb hts iw_X11_way_X7 tyX7 tyX7_ok nmX7 hown hK hP hD hS 1 rfl rfl 2 (by decide) (hts (.fieldLink RX11 187 "SoldHouse$Routes" "lying" "I") (List.mem_of_getElem? (i := 2) rfl)) (fun _ h9 => h9) rfl (by decide +kernel) rfl rfl (Nat.le_of_ble_eq_true rfl) dX11_way_5 (fun H locs hP hD hS => ?_)
  replace hP : va_P D classes [(SO, .inr (11, oX11 PL DR TA RE FL RO HU ME TR NI)), (RO, .inr (7, oX7 FL aRO 0)), (PL, .inr (5, oX5 FO aPL PL_rooms PL_doors PL_things PL_draw PL_drawTold)), (FL, .inr (0, oX0 PL aFL FL_parting)), ((aFL 2), .inl (cI, 64, .inl FL_far)), ((aRO 1), .inl (cI, 8, .inl RO_lie)), ((aFL 1), .inl (cI, 8, .inl FL_next))] H := hP
  replace hD : va_D A [(SO, .inr (11, oX11 PL DR TA RE FL RO HU ME TR NI)), (RO, .inr (7, oX7 FL aRO 0)), (PL, .inr (5, oX5 FO aPL PL_rooms PL_doors PL_things PL_draw PL_drawTold)), (FL, .inr (0, oX0 PL aFL FL_parting)), ((aFL 2), .inl (cI, 64, .inl FL_far)), ((aRO 1), .inl (cI, 8, .inl RO_lie)), ((aFL 1), .inl (cI, 8, .inl FL_next))] := hD
  refine lv_aload_n hx hb dX11_way_8 rfl (lv_at hl 0 rfl) ?_
  refine lv_iload_n hx hb dX11_way_9 rfl (lv_at hl 1 rfl) ?_
  have hPc := hP.sub (ws' := [(SO, .inr (11, oX11 PL DR TA RE FL RO HU ME TR NI)), (PL, .inr (5, oX5 FO aPL PL_rooms PL_doors PL_things PL_draw PL_drawTold))]) [0, 2] rfl
  refine vp_callSi (va_runV (As := [.int x0]) (rest := []) ⟨hx, hb, hml, hown, hts⟩ (c_X11_isRoom l D cI cB cL cZ cG SO x0 PL DR TA RE FL RO HU ME TR NI PL_rooms aPL PL_doors PL_things FO PL_draw PL_drawTold b_PL_rooms b_PL_doors b_PL_things) (cwV 1 hts gX11_way_X11_isRoom rfl rfl rfl (by decide +kernel) ⟨Nat.le_of_ble_eq_true rfl, Nat.le_of_ble_eq_true rfl⟩) ⟨xr_blind, va_recv hK hP (ci := 11) (q0 := 0) rfl rfl, fun U hU hW => xr_mk hU hW hPc hK⟩ rfl rfl hl.1 rfl (lv_room (Nat.le_of_ble_eq_true rfl)) dX11_way_10 ⟨Nat.le_of_ble_eq_true rfl, Nat.le_of_ble_eq_true rfl⟩).run (fun r10 hr10 => ?_)
  clear hPc
  rcases hr10 with rfl | ⟨rfl, hr10_1_0⟩
  · refine lv_if_eq (tgt := 24) hx hb dX11_way_13 (by decide) (fun _ => ?_) (fun c13 => absurd (by decide) c13)
    refine lv_iconst (v := (-1)) hx hb dX11_way_24 (by decide) ?_
    exact W.iret (v := (-1)) hx hb hr (fun t ht hW => ⟨⟨(-1), (), rfl, (zB_w (show zB (-1) (-1) (-1) from ⟨by decide, by decide⟩) (by decide) (by decide)), ⟨0, RO_lie, (zB_w (show zB 0 0 0 from ⟨by decide, by decide⟩) (by decide) (by decide)), by rw [ht]; exact hP, hD⟩⟩, hS.F ht⟩) hS.2.2 dX11_way_25
  · refine lv_if_eq (tgt := 24) hx hb dX11_way_13 (by decide) (fun c13 => absurd c13 (by decide)) (fun _ => ?_)
    refine lv_aload_n hx hb dX11_way_16 rfl (lv_at hl 0 rfl) ?_
    refine lv_iload_n hx hb dX11_way_17 rfl (lv_at hl 2 rfl) ?_
    have hPc := hP.sub (ws' := [(SO, .inr (11, oX11 PL DR TA RE FL RO HU ME TR NI)), (PL, .inr (5, oX5 FO aPL PL_rooms PL_doors PL_things PL_draw PL_drawTold))]) [0, 2] rfl
    refine vp_callSi (va_runV (As := [.int x1]) (rest := []) ⟨hx, hb, hml, hown, hts⟩ (c_X11_isRoom l D cI cB cL cZ cG SO x1 PL DR TA RE FL RO HU ME TR NI PL_rooms aPL PL_doors PL_things FO PL_draw PL_drawTold b_PL_rooms b_PL_doors b_PL_things) (cwV 1 hts gX11_way_X11_isRoom rfl rfl rfl (by decide +kernel) ⟨Nat.le_of_ble_eq_true rfl, Nat.le_of_ble_eq_true rfl⟩) ⟨xr_blind, va_recv hK hP (ci := 11) (q0 := 0) rfl rfl, fun U hU hW => xr_mk hU hW hPc hK⟩ rfl rfl hl.1 rfl (lv_room (Nat.le_of_ble_eq_true rfl)) dX11_way_18 ⟨Nat.le_of_ble_eq_true rfl, Nat.le_of_ble_eq_true rfl⟩).run (fun r18 hr18 => ?_)
    clear hPc
    rcases hr18 with rfl | ⟨rfl, hr18_1_0⟩
    · refine lv_if_ne (tgt := 26) hx hb dX11_way_21 (by decide) (fun c21 => absurd (by decide) c21) (fun _ => ?_)
      refine lv_iconst (v := (-1)) hx hb dX11_way_24 (by decide) ?_
      exact W.iret (v := (-1)) hx hb hr (fun t ht hW => ⟨⟨(-1), (), rfl, (zB_w (show zB (-1) (-1) (-1) from ⟨by decide, by decide⟩) (by decide) (by decide)), ⟨0, RO_lie, (zB_w (show zB 0 0 0 from ⟨by decide, by decide⟩) (by decide) (by decide)), by rw [ht]; exact hP, hD⟩⟩, hS.F ht⟩) hS.2.2 dX11_way_25
    · refine lv_if_ne (tgt := 26) hx hb dX11_way_21 (by decide) (fun _ => ?_) (fun c21 => absurd c21 (by decide))
      refine lv_aload_n hx hb dX11_way_26 rfl (lv_at hl 0 rfl) ?_
      refine va_get (D := D) (ci := 11) (v := .ref RO) (C := RX11) (T := TX11) (N := 10) hx hb hts iw_X11_way_X11 hown hK hP 0 rfl rfl 5 (by decide) (hts (.fieldLink RX11 49 "SoldHouse" "routes" "LSoldHouse$Routes;") (List.mem_of_getElem? (i := 1) rfl)) (fun _ h9 => h9) rfl dX11_way_27 ?_
      refine lv_iload_n hx hb dX11_way_30 rfl (lv_at hl 1 rfl) ?_
      refine lv_iload_n hx hb dX11_way_31 rfl (lv_at hl 2 rfl) ?_
      have hPc := hP.sub (ws' := [(RO, .inr (7, oX7 FL aRO 0)), (FL, .inr (0, oX0 PL aFL FL_parting)), ((aFL 2), .inl (cI, 64, .inl FL_far)), ((aRO 1), .inl (cI, 8, .inl RO_lie)), (PL, .inr (5, oX5 FO aPL PL_rooms PL_doors PL_things PL_draw PL_drawTold)), ((aFL 1), .inl (cI, 8, .inl FL_next))]) [1, 3, 4, 5, 2, 6] rfl
      have hDc := hD.sub (ws' := [(RO, .inr (7, oX7 FL aRO 0)), (FL, .inr (0, oX0 PL aFL FL_parting)), ((aFL 2), .inl (cI, 64, .inl FL_far)), ((aRO 1), .inl (cI, 8, .inl RO_lie)), (PL, .inr (5, oX5 FO aPL PL_rooms PL_doors PL_things PL_draw PL_drawTold)), ((aFL 1), .inl (cI, 8, .inl FL_next))]) [1, 3, 4, 5, 2, 6] (by decide) rfl
      have hFc := va_free (wc := [(RO, .inr (7, oX7 FL aRO 0)), (FL, .inr (0, oX0 PL aFL FL_parting)), ((aFL 2), .inl (cI, 64, .inl FL_far)), ((aRO 1), .inl (cI, 8, .inl RO_lie)), (PL, .inr (5, oX5 FO aPL PL_rooms PL_doors PL_things PL_draw PL_drawTold)), ((aFL 1), .inl (cI, 8, .inl FL_next))]) hD hS hA [1, 3, 4, 5, 2, 6] rfl
      refine va_calli (va_runV (As := [.int x0, .int x1]) (rest := []) ⟨hx, hb, hml, hown, hts⟩ (c_X7_layWay l D cI cB cL cZ cG RO x0 x1 FL aRO 0 PL aFL FL_parting FL_far RO_lie PL_rooms aPL PL_doors PL_things FO PL_draw PL_drawTold FL_next H.size hr10_1_0 hr18_1_0 (zB_w (show zB 0 0 0 from ⟨by decide, by decide⟩) (by decide) (by decide)) b_PL_rooms b_PL_doors b_PL_things s_FL_far_0) (cwV 2 hts gX11_way_X7_layWay rfl rfl rfl (by decide +kernel) ⟨Nat.le_of_ble_eq_true rfl, Nat.le_of_ble_eq_true rfl⟩) ⟨xp_blind, va_recv hK hP (ci := 7) (q0 := 1) rfl rfl, fun U hU hW => xp_mk hU hW hPc hK hDc xNw_nil⟩ rfl rfl hl.1 rfl (lv_room (Nat.le_of_ble_eq_true rfl)) dX11_way_32 ⟨Nat.le_of_ble_eq_true rfl, Nat.le_of_ble_eq_true rfl⟩) hS (fun q _ h => hFc q h) hFc (fun r32 u9 t9 H1 locs ht9 hvm9 hr32 hB9 hz9 hk9 hS => ?_)
      obtain ⟨o32_nRO_lying, o32_nROlie, bo32_nRO_lying, hP1, hD1⟩ := hB9
      rw [ht9] at hP1
      obtain ⟨hP, hD⟩ := va_join (wr := [(SO, .inr (11, oX11 PL DR TA RE FL RO HU ME TR NI))]) (w1 := [(RO, .inr (7, oX7 FL aRO o32_nRO_lying)), (FL, .inr (0, oX0 PL aFL FL_parting)), ((aFL 2), .inl (cI, 64, .inl FL_far)), ((aRO 1), .inl (cI, 8, .inl o32_nROlie)), (PL, .inr (5, oX5 FO aPL PL_rooms PL_doors PL_things PL_draw PL_drawTold)), ((aFL 1), .inl (cI, 8, .inl FL_next))]) hP hD [1, 3, 4, 5, 2, 6] [0] rfl rfl (by decide) (by decide) hk9 hFc hP1 hD1
      clear hz9 hPc hDc hP1 hD1 hk9 hFc ht9 hvm9 u9 t9
      generalize H1 = H at hP hS ⊢
      replace hP : va_P D classes [(SO, .inr (11, oX11 PL DR TA RE FL RO HU ME TR NI)), (RO, .inr (7, oX7 FL aRO o32_nRO_lying)), (PL, .inr (5, oX5 FO aPL PL_rooms PL_doors PL_things PL_draw PL_drawTold)), (FL, .inr (0, oX0 PL aFL FL_parting)), ((aFL 2), .inl (cI, 64, .inl FL_far)), ((aRO 1), .inl (cI, 8, .inl o32_nROlie)), ((aFL 1), .inl (cI, 8, .inl FL_next))] H := hP.sub [0, 1, 5, 2, 3, 4, 6] rfl
      replace hD : va_D A [(SO, .inr (11, oX11 PL DR TA RE FL RO HU ME TR NI)), (RO, .inr (7, oX7 FL aRO o32_nRO_lying)), (PL, .inr (5, oX5 FO aPL PL_rooms PL_doors PL_things PL_draw PL_drawTold)), (FL, .inr (0, oX0 PL aFL FL_parting)), ((aFL 2), .inl (cI, 64, .inl FL_far)), ((aRO 1), .inl (cI, 8, .inl o32_nROlie)), ((aFL 1), .inl (cI, 8, .inl FL_next))] := hD.sub [0, 1, 5, 2, 3, 4, 6] (by decide) rfl
      exact W.iret (v := r32) hx hb hr (fun t ht hW => ⟨⟨r32, (), rfl, hr32, ⟨o32_nRO_lying, o32_nROlie, bo32_nRO_lying, by rw [ht]; exact hP, hD⟩⟩, hS.F ht⟩) hS.2.2 dX11_way_35
set_option maxHeartbeats 4000000 in
set_option maxRecDepth 100000 in
theorem c_X11_quiet (l : Launch) (D : va_G) (cI : ClassId) (cB : ClassId) (cL : ClassId) (cZ : ClassId) (cG : ClassId) (SO : Nat) (x0 : Int32) (x1 : Int32) (PL : Nat) (DR : Nat) (TA : Nat) (RE : Nat) (FL : Nat) (RO : Nat) (HU : Nat) (ME : Nat) (TR : Nat) (NI : Nat) (aRO : Nat → Nat) (RO_lying : Int32) (PL_rooms : Int32) (aPL : Nat → Nat) (PL_doors : Int32) (PL_things : Int32) (FO : Nat) (PL_draw : Int32) (PL_drawTold : Int32) (aFL : Nat → Nat) (FL_parting : Int32) (FL_far : Nat → Int32) (RO_cost : Nat → Int32) (FL_next : Nat → Int32) (PL_creaks : Nat → Int32) (RO_lie : Nat → Int32) (sz : Nat) (b_RO_lying : zB RO_lying 0 8) (b_PL_rooms : zB PL_rooms 0 8) (b_PL_doors : zB PL_doors 0 12) (b_PL_things : zB PL_things 0 6) (s_FL_far_0 : zA FL_far 0 64 (-1) 7) : Met l yX11_quiet wsX11_quiet ({ frames := 4, cells := 0, slots := 0, locals := 93 }) (xp D [(cI, .int), (cB, .byte), (cL, .long), (cZ, .boolean), (cG, .array .int)] [(SO, .inr (11, oX11 PL DR TA RE FL RO HU ME TR NI)), (RO, .inr (7, oX7 FL aRO RO_lying)), (PL, .inr (5, oX5 FO aPL PL_rooms PL_doors PL_things PL_draw PL_drawTold)), (FL, .inr (0, oX0 PL aFL FL_parting)), ((aFL 2), .inl (cI, 64, .inl FL_far)), ((aRO 3), .inl (cI, 8, .inl RO_cost)), ((aFL 1), .inl (cI, 8, .inl FL_next)), ((aPL 2), .inl (cI, 8, .inl PL_creaks)), ((aRO 1), .inl (cI, 8, .inl RO_lie))] sz [] [.ref SO, .int x0, .int x1]) (va_Qi (fun (r : Int32) (_ : Unit) => True) (fun (_ : Unit) (t : State) => ∃ (nRO_lying : Int32), ∃ (nROcost : Nat → Int32), ∃ (nROlie : Nat → Int32), zB nRO_lying 0 8 ∧ xB D (va_A [(SO, .inr (11, oX11 PL DR TA RE FL RO HU ME TR NI)), (RO, .inr (7, oX7 FL aRO RO_lying)), (PL, .inr (5, oX5 FO aPL PL_rooms PL_doors PL_things PL_draw PL_drawTold)), (FL, .inr (0, oX0 PL aFL FL_parting)), ((aFL 2), .inl (cI, 64, .inl FL_far)), ((aRO 3), .inl (cI, 8, .inl RO_cost)), ((aFL 1), .inl (cI, 8, .inl FL_next)), ((aPL 2), .inl (cI, 8, .inl PL_creaks)), ((aRO 1), .inl (cI, 8, .inl RO_lie))] sz) [(SO, .inr (11, oX11 PL DR TA RE FL RO HU ME TR NI)), (RO, .inr (7, oX7 FL aRO nRO_lying)), (PL, .inr (5, oX5 FO aPL PL_rooms PL_doors PL_things PL_draw PL_drawTold)), (FL, .inr (0, oX0 PL aFL FL_parting)), ((aFL 2), .inl (cI, 64, .inl FL_far)), ((aRO 3), .inl (cI, 8, .inl nROcost)), ((aFL 1), .inl (cI, 8, .inl FL_next)), ((aPL 2), .inl (cI, 8, .inl PL_creaks)), ((aRO 1), .inl (cI, 8, .inl nROlie))] t) (va_A [(SO, .inr (11, oX11 PL DR TA RE FL RO HU ME TR NI)), (RO, .inr (7, oX7 FL aRO RO_lying)), (PL, .inr (5, oX5 FO aPL PL_rooms PL_doors PL_things PL_draw PL_drawTold)), (FL, .inr (0, oX0 PL aFL FL_parting)), ((aFL 2), .inl (cI, 64, .inl FL_far)), ((aRO 3), .inl (cI, 8, .inl RO_cost)), ((aFL 1), .inl (cI, 8, .inl FL_next)), ((aPL 2), .inl (cI, 8, .inl PL_creaks)), ((aRO 1), .inl (cI, 8, .inl RO_lie))] sz)) 0 0 (va_A [(SO, .inr (11, oX11 PL DR TA RE FL RO HU ME TR NI)), (RO, .inr (7, oX7 FL aRO RO_lying)), (PL, .inr (5, oX5 FO aPL PL_rooms PL_doors PL_things PL_draw PL_drawTold)), (FL, .inr (0, oX0 PL aFL FL_parting)), ((aFL 2), .inl (cI, 64, .inl FL_far)), ((aRO 3), .inl (cI, 8, .inl RO_cost)), ((aFL 1), .inl (cI, 8, .inl FL_next)), ((aPL 2), .inl (cI, 8, .inl PL_creaks)), ((aRO 1), .inl (cI, 8, .inl RO_lie))] sz) := by
  refine Met.ofW (cc := cX11_quiet) (maxL := 3) (ret := (some .int)) (by decide) rfl ?_
  intro p e s m args below meth c s₁ B hml hv
  obtain ⟨rfl, hsz, hP, hK, hD0, hNw⟩ := hv
  have hx := B.exec
  have hb := B.bytes
  have hr := B.returns
  have hts := atoms_spec (ws := wsX11_quiet) B.pre
  have hown : s.vm.findClass RX11 = some m.cls := findClass_of_methodNamed B.named
  have hlocks := B.notSynchronized
  clear B
  subst hsz
  have hD := hD0.self (sz := s.heap.size)
  clear hD0 hNw
  generalize hAe : va_A [(SO, .inr (11, oX11 PL DR TA RE FL RO HU ME TR NI)), (RO, .inr (7, oX7 FL aRO RO_lying)), (PL, .inr (5, oX5 FO aPL PL_rooms PL_doors PL_things PL_draw PL_drawTold)), (FL, .inr (0, oX0 PL aFL FL_parting)), ((aFL 2), .inl (cI, 64, .inl FL_far)), ((aRO 3), .inl (cI, 8, .inl RO_cost)), ((aFL 1), .inl (cI, 8, .inl FL_next)), ((aPL 2), .inl (cI, 8, .inl PL_creaks)), ((aRO 1), .inl (cI, 8, .inl RO_lie))] s.heap.size = A at hD ⊢
  have hA : ∀ q : Nat, s.heap.size ≤ q → A q := fun q h => by rw [← hAe]; exact Or.inr h
  have hS : va_S A s.heap s.heap [] := va_S.rf
  clear hAe
  obtain ⟨H, hH⟩ : ∃ H : Heap, H = s.heap := ⟨_, rfl⟩
  obtain ⟨locs, hlocs⟩ : ∃ L : List Loc, L = [] := ⟨_, rfl⟩
  replace hP : va_P D classes [(SO, .inr (11, oX11 PL DR TA RE FL RO HU ME TR NI)), (RO, .inr (7, oX7 FL aRO RO_lying)), (PL, .inr (5, oX5 FO aPL PL_rooms PL_doors PL_things PL_draw PL_drawTold)), (FL, .inr (0, oX0 PL aFL FL_parting)), ((aFL 2), .inl (cI, 64, .inl FL_far)), ((aRO 3), .inl (cI, 8, .inl RO_cost)), ((aFL 1), .inl (cI, 8, .inl FL_next)), ((aPL 2), .inl (cI, 8, .inl PL_creaks)), ((aRO 1), .inl (cI, 8, .inl RO_lie))] H := by rw [hH]; exact hP
  replace hS : va_S A s.heap H locs := by rw [hH, hlocs]; exact hS
  rw [← hH, ← hlocs]
  clear hlocs hH
  have hl := lv_entry ([.ref SO, .int x0, .int x1]) (n := 3) (Nat.le_of_ble_eq_true rfl)
  rw [lg_entry_eq]
  generalize (lg_sl ([.ref SO, .int x0, .int x1]) ++ List.replicate (3 - (lg_sl ([.ref SO, .int x0, .int x1])).length) Slot.unset).toArray = ls at hl ⊢
  replace hl : lv_has ls 3 [(0, .ref SO), (1, .int x0), (2, .int x1)] := hl
  refine lv_aload_n hx hb dX11_quiet_0 rfl (lv_at hl 0 rfl) ?_
  refine va_get (D := D) (ci := 11) (v := .ref RO) (C := RX11) (T := TX11) (N := 10) hx hb hts iw_X11_quiet_X11 hown hK hP 0 rfl rfl 5 (by decide) (hts (.fieldLink RX11 49 "SoldHouse" "routes" "LSoldHouse$Routes;") (List.mem_of_getElem? (i := 1) rfl)) (fun _ h9 => h9) rfl dX11_quiet_1 ?_
  refine lv_iconst (v := 0) hx hb dX11_quiet_4 (by decide) ?_
  refine va_put (D := D) (ci := 7) (v := .int 0) (ty := tyX7 2) (C := RX7) (T := TX7) (N := 5) hx hb hts iw_X11_quiet_X7 tyX7 tyX7_ok nmX7 hown hK hP hD hS 1 rfl rfl 2 (by decide) (hts (.fieldLink RX11 187 "SoldHouse$Routes" "lying" "I") (List.mem_of_getElem? (i := 2) rfl)) (fun _ h9 => h9) rfl (by decide +kernel) rfl rfl (Nat.le_of_ble_eq_true rfl) dX11_quiet_5 (fun H locs hP hD hS => ?_)
  replace hP : va_P D classes [(SO, .inr (11, oX11 PL DR TA RE FL RO HU ME TR NI)), (RO, .inr (7, oX7 FL aRO 0)), (PL, .inr (5, oX5 FO aPL PL_rooms PL_doors PL_things PL_draw PL_drawTold)), (FL, .inr (0, oX0 PL aFL FL_parting)), ((aFL 2), .inl (cI, 64, .inl FL_far)), ((aRO 3), .inl (cI, 8, .inl RO_cost)), ((aFL 1), .inl (cI, 8, .inl FL_next)), ((aPL 2), .inl (cI, 8, .inl PL_creaks)), ((aRO 1), .inl (cI, 8, .inl RO_lie))] H := hP
  replace hD : va_D A [(SO, .inr (11, oX11 PL DR TA RE FL RO HU ME TR NI)), (RO, .inr (7, oX7 FL aRO 0)), (PL, .inr (5, oX5 FO aPL PL_rooms PL_doors PL_things PL_draw PL_drawTold)), (FL, .inr (0, oX0 PL aFL FL_parting)), ((aFL 2), .inl (cI, 64, .inl FL_far)), ((aRO 3), .inl (cI, 8, .inl RO_cost)), ((aFL 1), .inl (cI, 8, .inl FL_next)), ((aPL 2), .inl (cI, 8, .inl PL_creaks)), ((aRO 1), .inl (cI, 8, .inl RO_lie))] := hD
  refine lv_aload_n hx hb dX11_quiet_8 rfl (lv_at hl 0 rfl) ?_
  refine lv_iload_n hx hb dX11_quiet_9 rfl (lv_at hl 1 rfl) ?_
  have hPc := hP.sub (ws' := [(SO, .inr (11, oX11 PL DR TA RE FL RO HU ME TR NI)), (PL, .inr (5, oX5 FO aPL PL_rooms PL_doors PL_things PL_draw PL_drawTold))]) [0, 2] rfl
  refine vp_callSi (va_runV (As := [.int x0]) (rest := []) ⟨hx, hb, hml, hown, hts⟩ (c_X11_isRoom l D cI cB cL cZ cG SO x0 PL DR TA RE FL RO HU ME TR NI PL_rooms aPL PL_doors PL_things FO PL_draw PL_drawTold b_PL_rooms b_PL_doors b_PL_things) (cwV 1 hts gX11_quiet_X11_isRoom rfl rfl rfl (by decide +kernel) ⟨Nat.le_of_ble_eq_true rfl, Nat.le_of_ble_eq_true rfl⟩) ⟨xr_blind, va_recv hK hP (ci := 11) (q0 := 0) rfl rfl, fun U hU hW => xr_mk hU hW hPc hK⟩ rfl rfl hl.1 rfl (lv_room (Nat.le_of_ble_eq_true rfl)) dX11_quiet_10 ⟨Nat.le_of_ble_eq_true rfl, Nat.le_of_ble_eq_true rfl⟩).run (fun r10 hr10 => ?_)
  clear hPc
  rcases hr10 with rfl | ⟨rfl, hr10_1_0⟩
  · refine lv_if_eq (tgt := 24) hx hb dX11_quiet_13 (by decide) (fun _ => ?_) (fun c13 => absurd (by decide) c13)
    refine lv_iconst (v := (-1)) hx hb dX11_quiet_24 (by decide) ?_
    exact W.iret (v := (-1)) hx hb hr (fun t ht hW => ⟨⟨(-1), (), rfl, trivial, ⟨0, RO_cost, RO_lie, (zB_w (show zB 0 0 0 from ⟨by decide, by decide⟩) (by decide) (by decide)), by rw [ht]; exact hP, hD⟩⟩, hS.F ht⟩) hS.2.2 dX11_quiet_25
  · refine lv_if_eq (tgt := 24) hx hb dX11_quiet_13 (by decide) (fun c13 => absurd c13 (by decide)) (fun _ => ?_)
    refine lv_aload_n hx hb dX11_quiet_16 rfl (lv_at hl 0 rfl) ?_
    refine lv_iload_n hx hb dX11_quiet_17 rfl (lv_at hl 2 rfl) ?_
    have hPc := hP.sub (ws' := [(SO, .inr (11, oX11 PL DR TA RE FL RO HU ME TR NI)), (PL, .inr (5, oX5 FO aPL PL_rooms PL_doors PL_things PL_draw PL_drawTold))]) [0, 2] rfl
    refine vp_callSi (va_runV (As := [.int x1]) (rest := []) ⟨hx, hb, hml, hown, hts⟩ (c_X11_isRoom l D cI cB cL cZ cG SO x1 PL DR TA RE FL RO HU ME TR NI PL_rooms aPL PL_doors PL_things FO PL_draw PL_drawTold b_PL_rooms b_PL_doors b_PL_things) (cwV 1 hts gX11_quiet_X11_isRoom rfl rfl rfl (by decide +kernel) ⟨Nat.le_of_ble_eq_true rfl, Nat.le_of_ble_eq_true rfl⟩) ⟨xr_blind, va_recv hK hP (ci := 11) (q0 := 0) rfl rfl, fun U hU hW => xr_mk hU hW hPc hK⟩ rfl rfl hl.1 rfl (lv_room (Nat.le_of_ble_eq_true rfl)) dX11_quiet_18 ⟨Nat.le_of_ble_eq_true rfl, Nat.le_of_ble_eq_true rfl⟩).run (fun r18 hr18 => ?_)
    clear hPc
    rcases hr18 with rfl | ⟨rfl, hr18_1_0⟩
    · refine lv_if_ne (tgt := 26) hx hb dX11_quiet_21 (by decide) (fun c21 => absurd (by decide) c21) (fun _ => ?_)
      refine lv_iconst (v := (-1)) hx hb dX11_quiet_24 (by decide) ?_
      exact W.iret (v := (-1)) hx hb hr (fun t ht hW => ⟨⟨(-1), (), rfl, trivial, ⟨0, RO_cost, RO_lie, (zB_w (show zB 0 0 0 from ⟨by decide, by decide⟩) (by decide) (by decide)), by rw [ht]; exact hP, hD⟩⟩, hS.F ht⟩) hS.2.2 dX11_quiet_25
    · refine lv_if_ne (tgt := 26) hx hb dX11_quiet_21 (by decide) (fun _ => ?_) (fun c21 => absurd c21 (by decide))
      refine lv_aload_n hx hb dX11_quiet_26 rfl (lv_at hl 0 rfl) ?_
      refine va_get (D := D) (ci := 11) (v := .ref RO) (C := RX11) (T := TX11) (N := 10) hx hb hts iw_X11_quiet_X11 hown hK hP 0 rfl rfl 5 (by decide) (hts (.fieldLink RX11 49 "SoldHouse" "routes" "LSoldHouse$Routes;") (List.mem_of_getElem? (i := 1) rfl)) (fun _ h9 => h9) rfl dX11_quiet_27 ?_
      refine lv_iload_n hx hb dX11_quiet_30 rfl (lv_at hl 1 rfl) ?_
      refine lv_iload_n hx hb dX11_quiet_31 rfl (lv_at hl 2 rfl) ?_
      have hPc := hP.sub (ws' := [(RO, .inr (7, oX7 FL aRO 0)), (FL, .inr (0, oX0 PL aFL FL_parting)), ((aFL 2), .inl (cI, 64, .inl FL_far)), ((aRO 3), .inl (cI, 8, .inl RO_cost)), (PL, .inr (5, oX5 FO aPL PL_rooms PL_doors PL_things PL_draw PL_drawTold)), ((aFL 1), .inl (cI, 8, .inl FL_next)), ((aPL 2), .inl (cI, 8, .inl PL_creaks)), ((aRO 1), .inl (cI, 8, .inl RO_lie))]) [1, 3, 4, 5, 2, 6, 7, 8] rfl
      have hDc := hD.sub (ws' := [(RO, .inr (7, oX7 FL aRO 0)), (FL, .inr (0, oX0 PL aFL FL_parting)), ((aFL 2), .inl (cI, 64, .inl FL_far)), ((aRO 3), .inl (cI, 8, .inl RO_cost)), (PL, .inr (5, oX5 FO aPL PL_rooms PL_doors PL_things PL_draw PL_drawTold)), ((aFL 1), .inl (cI, 8, .inl FL_next)), ((aPL 2), .inl (cI, 8, .inl PL_creaks)), ((aRO 1), .inl (cI, 8, .inl RO_lie))]) [1, 3, 4, 5, 2, 6, 7, 8] (by decide) rfl
      have hFc := va_free (wc := [(RO, .inr (7, oX7 FL aRO 0)), (FL, .inr (0, oX0 PL aFL FL_parting)), ((aFL 2), .inl (cI, 64, .inl FL_far)), ((aRO 3), .inl (cI, 8, .inl RO_cost)), (PL, .inr (5, oX5 FO aPL PL_rooms PL_doors PL_things PL_draw PL_drawTold)), ((aFL 1), .inl (cI, 8, .inl FL_next)), ((aPL 2), .inl (cI, 8, .inl PL_creaks)), ((aRO 1), .inl (cI, 8, .inl RO_lie))]) hD hS hA [1, 3, 4, 5, 2, 6, 7, 8] rfl
      refine va_calli (va_runV (As := [.int x0, .int x1]) (rest := []) ⟨hx, hb, hml, hown, hts⟩ (c_X7_layQuiet l D cI cB cL cZ cG RO x0 x1 FL aRO 0 PL aFL FL_parting FL_far RO_cost PL_rooms aPL PL_doors PL_things FO PL_draw PL_drawTold FL_next PL_creaks RO_lie H.size hr10_1_0 hr18_1_0 (zB_w (show zB 0 0 0 from ⟨by decide, by decide⟩) (by decide) (by decide)) b_PL_rooms b_PL_doors b_PL_things s_FL_far_0) (cwV 2 hts gX11_quiet_X7_layQuiet rfl rfl rfl (by decide +kernel) ⟨Nat.le_of_ble_eq_true rfl, Nat.le_of_ble_eq_true rfl⟩) ⟨xp_blind, va_recv hK hP (ci := 7) (q0 := 1) rfl rfl, fun U hU hW => xp_mk hU hW hPc hK hDc xNw_nil⟩ rfl rfl hl.1 rfl (lv_room (Nat.le_of_ble_eq_true rfl)) dX11_quiet_32 ⟨Nat.le_of_ble_eq_true rfl, Nat.le_of_ble_eq_true rfl⟩) hS (fun q _ h => hFc q h) hFc (fun r32 u9 t9 H1 locs ht9 hvm9 hr32 hB9 hz9 hk9 hS => ?_)
      obtain ⟨o32_nRO_lying, o32_nROcost, o32_nROlie, bo32_nRO_lying, hP1, hD1⟩ := hB9
      rw [ht9] at hP1
      obtain ⟨hP, hD⟩ := va_join (wr := [(SO, .inr (11, oX11 PL DR TA RE FL RO HU ME TR NI))]) (w1 := [(RO, .inr (7, oX7 FL aRO o32_nRO_lying)), (FL, .inr (0, oX0 PL aFL FL_parting)), ((aFL 2), .inl (cI, 64, .inl FL_far)), ((aRO 3), .inl (cI, 8, .inl o32_nROcost)), (PL, .inr (5, oX5 FO aPL PL_rooms PL_doors PL_things PL_draw PL_drawTold)), ((aFL 1), .inl (cI, 8, .inl FL_next)), ((aPL 2), .inl (cI, 8, .inl PL_creaks)), ((aRO 1), .inl (cI, 8, .inl o32_nROlie))]) hP hD [1, 3, 4, 5, 2, 6, 7, 8] [0] rfl rfl (by decide) (by decide) hk9 hFc hP1 hD1
      clear hz9 hPc hDc hP1 hD1 hk9 hFc ht9 hvm9 u9 t9
      generalize H1 = H at hP hS ⊢
      replace hP : va_P D classes [(SO, .inr (11, oX11 PL DR TA RE FL RO HU ME TR NI)), (RO, .inr (7, oX7 FL aRO o32_nRO_lying)), (PL, .inr (5, oX5 FO aPL PL_rooms PL_doors PL_things PL_draw PL_drawTold)), (FL, .inr (0, oX0 PL aFL FL_parting)), ((aFL 2), .inl (cI, 64, .inl FL_far)), ((aRO 3), .inl (cI, 8, .inl o32_nROcost)), ((aFL 1), .inl (cI, 8, .inl FL_next)), ((aPL 2), .inl (cI, 8, .inl PL_creaks)), ((aRO 1), .inl (cI, 8, .inl o32_nROlie))] H := hP.sub [0, 1, 5, 2, 3, 4, 6, 7, 8] rfl
      replace hD : va_D A [(SO, .inr (11, oX11 PL DR TA RE FL RO HU ME TR NI)), (RO, .inr (7, oX7 FL aRO o32_nRO_lying)), (PL, .inr (5, oX5 FO aPL PL_rooms PL_doors PL_things PL_draw PL_drawTold)), (FL, .inr (0, oX0 PL aFL FL_parting)), ((aFL 2), .inl (cI, 64, .inl FL_far)), ((aRO 3), .inl (cI, 8, .inl o32_nROcost)), ((aFL 1), .inl (cI, 8, .inl FL_next)), ((aPL 2), .inl (cI, 8, .inl PL_creaks)), ((aRO 1), .inl (cI, 8, .inl o32_nROlie))] := hD.sub [0, 1, 5, 2, 3, 4, 6, 7, 8] (by decide) rfl
      clear hr32
      exact W.iret (v := r32) hx hb hr (fun t ht hW => ⟨⟨r32, (), rfl, trivial, ⟨o32_nRO_lying, o32_nROcost, o32_nROlie, bo32_nRO_lying, by rw [ht]; exact hP, hD⟩⟩, hS.F ht⟩) hS.2.2 dX11_quiet_35
set_option maxHeartbeats 4000000 in
set_option maxRecDepth 100000 in
theorem c_X11_ways (l : Launch) (D : va_G) (cI : ClassId) (cB : ClassId) (cL : ClassId) (cZ : ClassId) (cG : ClassId) (SO : Nat) (x0 : Int32) (x1 : Int32) (PL : Nat) (DR : Nat) (TA : Nat) (RE : Nat) (FL : Nat) (RO : Nat) (HU : Nat) (ME : Nat) (TR : Nat) (NI : Nat) (PL_rooms : Int32) (aPL : Nat → Nat) (PL_doors : Int32) (PL_things : Int32) (FO : Nat) (PL_draw : Int32) (PL_drawTold : Int32) (aRO : Nat → Nat) (RO_lying : Int32) (aFL : Nat → Nat) (FL_parting : Int32) (FL_far : Nat → Int32) (RO_cost : Nat → Int32) (FL_next : Nat → Int32) (sz : Nat) (b_PL_rooms : zB PL_rooms 0 8) (b_PL_doors : zB PL_doors 0 12) (b_PL_things : zB PL_things 0 6) (b_RO_lying : zB RO_lying 0 8) (s_FL_far_0 : zA FL_far 0 64 (-1) 7) : Met l yX11_ways wsX11_ways ({ frames := 3, cells := 0, slots := 0, locals := 71 }) (xp D [(cI, .int), (cB, .byte), (cL, .long), (cZ, .boolean), (cG, .array .int)] [(SO, .inr (11, oX11 PL DR TA RE FL RO HU ME TR NI)), (PL, .inr (5, oX5 FO aPL PL_rooms PL_doors PL_things PL_draw PL_drawTold)), (RO, .inr (7, oX7 FL aRO RO_lying)), (FL, .inr (0, oX0 PL aFL FL_parting)), ((aFL 2), .inl (cI, 64, .inl FL_far)), ((aRO 3), .inl (cI, 8, .inl RO_cost)), ((aFL 1), .inl (cI, 8, .inl FL_next))] sz [] [.ref SO, .int x0, .int x1]) (va_Qi (fun (r : Int32) (_ : Unit) => True) (fun (_ : Unit) (t : State) => ∃ (nROcost : Nat → Int32), xB D (va_A [(SO, .inr (11, oX11 PL DR TA RE FL RO HU ME TR NI)), (PL, .inr (5, oX5 FO aPL PL_rooms PL_doors PL_things PL_draw PL_drawTold)), (RO, .inr (7, oX7 FL aRO RO_lying)), (FL, .inr (0, oX0 PL aFL FL_parting)), ((aFL 2), .inl (cI, 64, .inl FL_far)), ((aRO 3), .inl (cI, 8, .inl RO_cost)), ((aFL 1), .inl (cI, 8, .inl FL_next))] sz) [(SO, .inr (11, oX11 PL DR TA RE FL RO HU ME TR NI)), (PL, .inr (5, oX5 FO aPL PL_rooms PL_doors PL_things PL_draw PL_drawTold)), (RO, .inr (7, oX7 FL aRO RO_lying)), (FL, .inr (0, oX0 PL aFL FL_parting)), ((aFL 2), .inl (cI, 64, .inl FL_far)), ((aRO 3), .inl (cI, 8, .inl nROcost)), ((aFL 1), .inl (cI, 8, .inl FL_next))] t) (va_A [(SO, .inr (11, oX11 PL DR TA RE FL RO HU ME TR NI)), (PL, .inr (5, oX5 FO aPL PL_rooms PL_doors PL_things PL_draw PL_drawTold)), (RO, .inr (7, oX7 FL aRO RO_lying)), (FL, .inr (0, oX0 PL aFL FL_parting)), ((aFL 2), .inl (cI, 64, .inl FL_far)), ((aRO 3), .inl (cI, 8, .inl RO_cost)), ((aFL 1), .inl (cI, 8, .inl FL_next))] sz)) 0 0 (va_A [(SO, .inr (11, oX11 PL DR TA RE FL RO HU ME TR NI)), (PL, .inr (5, oX5 FO aPL PL_rooms PL_doors PL_things PL_draw PL_drawTold)), (RO, .inr (7, oX7 FL aRO RO_lying)), (FL, .inr (0, oX0 PL aFL FL_parting)), ((aFL 2), .inl (cI, 64, .inl FL_far)), ((aRO 3), .inl (cI, 8, .inl RO_cost)), ((aFL 1), .inl (cI, 8, .inl FL_next))] sz) := by
  refine Met.ofW (cc := cX11_ways) (maxL := 3) (ret := (some .int)) (by decide) rfl ?_
  intro p e s m args below meth c s₁ B hml hv
  obtain ⟨rfl, hsz, hP, hK, hD0, hNw⟩ := hv
  have hx := B.exec
  have hb := B.bytes
  have hr := B.returns
  have hts := atoms_spec (ws := wsX11_ways) B.pre
  have hown : s.vm.findClass RX11 = some m.cls := findClass_of_methodNamed B.named
  have hlocks := B.notSynchronized
  clear B
  subst hsz
  have hD := hD0.self (sz := s.heap.size)
  clear hD0 hNw
  generalize hAe : va_A [(SO, .inr (11, oX11 PL DR TA RE FL RO HU ME TR NI)), (PL, .inr (5, oX5 FO aPL PL_rooms PL_doors PL_things PL_draw PL_drawTold)), (RO, .inr (7, oX7 FL aRO RO_lying)), (FL, .inr (0, oX0 PL aFL FL_parting)), ((aFL 2), .inl (cI, 64, .inl FL_far)), ((aRO 3), .inl (cI, 8, .inl RO_cost)), ((aFL 1), .inl (cI, 8, .inl FL_next))] s.heap.size = A at hD ⊢
  have hA : ∀ q : Nat, s.heap.size ≤ q → A q := fun q h => by rw [← hAe]; exact Or.inr h
  have hS : va_S A s.heap s.heap [] := va_S.rf
  clear hAe
  obtain ⟨H, hH⟩ : ∃ H : Heap, H = s.heap := ⟨_, rfl⟩
  obtain ⟨locs, hlocs⟩ : ∃ L : List Loc, L = [] := ⟨_, rfl⟩
  replace hP : va_P D classes [(SO, .inr (11, oX11 PL DR TA RE FL RO HU ME TR NI)), (PL, .inr (5, oX5 FO aPL PL_rooms PL_doors PL_things PL_draw PL_drawTold)), (RO, .inr (7, oX7 FL aRO RO_lying)), (FL, .inr (0, oX0 PL aFL FL_parting)), ((aFL 2), .inl (cI, 64, .inl FL_far)), ((aRO 3), .inl (cI, 8, .inl RO_cost)), ((aFL 1), .inl (cI, 8, .inl FL_next))] H := by rw [hH]; exact hP
  replace hS : va_S A s.heap H locs := by rw [hH, hlocs]; exact hS
  rw [← hH, ← hlocs]
  clear hlocs hH
  have hl := lv_entry ([.ref SO, .int x0, .int x1]) (n := 3) (Nat.le_of_ble_eq_true rfl)
  rw [lg_entry_eq]
  generalize (lg_sl ([.ref SO, .int x0, .int x1]) ++ List.replicate (3 - (lg_sl ([.ref SO, .int x0, .int x1])).length) Slot.unset).toArray = ls at hl ⊢
  replace hl : lv_has ls 3 [(0, .ref SO), (1, .int x0), (2, .int x1)] := hl
  refine lv_aload_n hx hb dX11_ways_0 rfl (lv_at hl 0 rfl) ?_
  refine lv_iload_n hx hb dX11_ways_1 rfl (lv_at hl 1 rfl) ?_
  have hPc := hP.sub (ws' := [(SO, .inr (11, oX11 PL DR TA RE FL RO HU ME TR NI)), (PL, .inr (5, oX5 FO aPL PL_rooms PL_doors PL_things PL_draw PL_drawTold))]) [0, 1] rfl
  refine vp_callSi (va_runV (As := [.int x0]) (rest := []) ⟨hx, hb, hml, hown, hts⟩ (c_X11_isRoom l D cI cB cL cZ cG SO x0 PL DR TA RE FL RO HU ME TR NI PL_rooms aPL PL_doors PL_things FO PL_draw PL_drawTold b_PL_rooms b_PL_doors b_PL_things) (cwV 1 hts gX11_ways_X11_isRoom rfl rfl rfl (by decide +kernel) ⟨Nat.le_of_ble_eq_true rfl, Nat.le_of_ble_eq_true rfl⟩) ⟨xr_blind, va_recv hK hP (ci := 11) (q0 := 0) rfl rfl, fun U hU hW => xr_mk hU hW hPc hK⟩ rfl rfl hl.1 rfl (lv_room (Nat.le_of_ble_eq_true rfl)) dX11_ways_2 ⟨Nat.le_of_ble_eq_true rfl, Nat.le_of_ble_eq_true rfl⟩).run (fun r2 hr2 => ?_)
  clear hPc
  rcases hr2 with rfl | ⟨rfl, hr2_1_0⟩
  · refine lv_if_eq (tgt := 16) hx hb dX11_ways_5 (by decide) (fun _ => ?_) (fun c5 => absurd (by decide) c5)
    refine lv_iconst (v := (-1)) hx hb dX11_ways_16 (by decide) ?_
    exact W.iret (v := (-1)) hx hb hr (fun t ht hW => ⟨⟨(-1), (), rfl, trivial, ⟨RO_cost, by rw [ht]; exact hP, hD⟩⟩, hS.F ht⟩) hS.2.2 dX11_ways_17
  · refine lv_if_eq (tgt := 16) hx hb dX11_ways_5 (by decide) (fun c5 => absurd c5 (by decide)) (fun _ => ?_)
    refine lv_aload_n hx hb dX11_ways_8 rfl (lv_at hl 0 rfl) ?_
    refine lv_iload_n hx hb dX11_ways_9 rfl (lv_at hl 2 rfl) ?_
    have hPc := hP.sub (ws' := [(SO, .inr (11, oX11 PL DR TA RE FL RO HU ME TR NI)), (PL, .inr (5, oX5 FO aPL PL_rooms PL_doors PL_things PL_draw PL_drawTold))]) [0, 1] rfl
    refine vp_callSi (va_runV (As := [.int x1]) (rest := []) ⟨hx, hb, hml, hown, hts⟩ (c_X11_isRoom l D cI cB cL cZ cG SO x1 PL DR TA RE FL RO HU ME TR NI PL_rooms aPL PL_doors PL_things FO PL_draw PL_drawTold b_PL_rooms b_PL_doors b_PL_things) (cwV 1 hts gX11_ways_X11_isRoom rfl rfl rfl (by decide +kernel) ⟨Nat.le_of_ble_eq_true rfl, Nat.le_of_ble_eq_true rfl⟩) ⟨xr_blind, va_recv hK hP (ci := 11) (q0 := 0) rfl rfl, fun U hU hW => xr_mk hU hW hPc hK⟩ rfl rfl hl.1 rfl (lv_room (Nat.le_of_ble_eq_true rfl)) dX11_ways_10 ⟨Nat.le_of_ble_eq_true rfl, Nat.le_of_ble_eq_true rfl⟩).run (fun r10 hr10 => ?_)
    clear hPc
    rcases hr10 with rfl | ⟨rfl, hr10_1_0⟩
    · refine lv_if_ne (tgt := 18) hx hb dX11_ways_13 (by decide) (fun c13 => absurd (by decide) c13) (fun _ => ?_)
      refine lv_iconst (v := (-1)) hx hb dX11_ways_16 (by decide) ?_
      exact W.iret (v := (-1)) hx hb hr (fun t ht hW => ⟨⟨(-1), (), rfl, trivial, ⟨RO_cost, by rw [ht]; exact hP, hD⟩⟩, hS.F ht⟩) hS.2.2 dX11_ways_17
    · refine lv_if_ne (tgt := 18) hx hb dX11_ways_13 (by decide) (fun _ => ?_) (fun c13 => absurd c13 (by decide))
      refine lv_aload_n hx hb dX11_ways_18 rfl (lv_at hl 0 rfl) ?_
      refine va_get (D := D) (ci := 11) (v := .ref RO) (C := RX11) (T := TX11) (N := 10) hx hb hts iw_X11_ways_X11 hown hK hP 0 rfl rfl 5 (by decide) (hts (.fieldLink RX11 49 "SoldHouse" "routes" "LSoldHouse$Routes;") (List.mem_of_getElem? (i := 1) rfl)) (fun _ h9 => h9) rfl dX11_ways_19 ?_
      refine lv_iload_n hx hb dX11_ways_22 rfl (lv_at hl 1 rfl) ?_
      refine lv_iload_n hx hb dX11_ways_23 rfl (lv_at hl 2 rfl) ?_
      have hPc := hP.sub (ws' := [(RO, .inr (7, oX7 FL aRO RO_lying)), (FL, .inr (0, oX0 PL aFL FL_parting)), ((aFL 2), .inl (cI, 64, .inl FL_far)), ((aRO 3), .inl (cI, 8, .inl RO_cost)), (PL, .inr (5, oX5 FO aPL PL_rooms PL_doors PL_things PL_draw PL_drawTold)), ((aFL 1), .inl (cI, 8, .inl FL_next))]) [2, 3, 4, 5, 1, 6] rfl
      have hDc := hD.sub (ws' := [(RO, .inr (7, oX7 FL aRO RO_lying)), (FL, .inr (0, oX0 PL aFL FL_parting)), ((aFL 2), .inl (cI, 64, .inl FL_far)), ((aRO 3), .inl (cI, 8, .inl RO_cost)), (PL, .inr (5, oX5 FO aPL PL_rooms PL_doors PL_things PL_draw PL_drawTold)), ((aFL 1), .inl (cI, 8, .inl FL_next))]) [2, 3, 4, 5, 1, 6] (by decide) rfl
      have hFc := va_free (wc := [(RO, .inr (7, oX7 FL aRO RO_lying)), (FL, .inr (0, oX0 PL aFL FL_parting)), ((aFL 2), .inl (cI, 64, .inl FL_far)), ((aRO 3), .inl (cI, 8, .inl RO_cost)), (PL, .inr (5, oX5 FO aPL PL_rooms PL_doors PL_things PL_draw PL_drawTold)), ((aFL 1), .inl (cI, 8, .inl FL_next))]) hD hS hA [2, 3, 4, 5, 1, 6] rfl
      refine va_calli (va_runV (As := [.int x0, .int x1]) (rest := []) ⟨hx, hb, hml, hown, hts⟩ (c_X7_countWays l D cI cB cL cZ cG RO x0 x1 FL aRO RO_lying PL aFL FL_parting FL_far RO_cost PL_rooms aPL PL_doors PL_things FO PL_draw PL_drawTold FL_next H.size hr2_1_0 hr10_1_0 b_RO_lying b_PL_rooms b_PL_doors b_PL_things s_FL_far_0) (cwV 2 hts gX11_ways_X7_countWays rfl rfl rfl (by decide +kernel) ⟨Nat.le_of_ble_eq_true rfl, Nat.le_of_ble_eq_true rfl⟩) ⟨xp_blind, va_recv hK hP (ci := 7) (q0 := 2) rfl rfl, fun U hU hW => xp_mk hU hW hPc hK hDc xNw_nil⟩ rfl rfl hl.1 rfl (lv_room (Nat.le_of_ble_eq_true rfl)) dX11_ways_24 ⟨Nat.le_of_ble_eq_true rfl, Nat.le_of_ble_eq_true rfl⟩) hS (fun q _ h => hFc q h) hFc (fun r24 u9 t9 H1 locs ht9 hvm9 hr24 hB9 hz9 hk9 hS => ?_)
      obtain ⟨o24_nROcost, hP1, hD1⟩ := hB9
      rw [ht9] at hP1
      obtain ⟨hP, hD⟩ := va_join (wr := [(SO, .inr (11, oX11 PL DR TA RE FL RO HU ME TR NI))]) (w1 := [(RO, .inr (7, oX7 FL aRO RO_lying)), (FL, .inr (0, oX0 PL aFL FL_parting)), ((aFL 2), .inl (cI, 64, .inl FL_far)), ((aRO 3), .inl (cI, 8, .inl o24_nROcost)), (PL, .inr (5, oX5 FO aPL PL_rooms PL_doors PL_things PL_draw PL_drawTold)), ((aFL 1), .inl (cI, 8, .inl FL_next))]) hP hD [2, 3, 4, 5, 1, 6] [0] rfl rfl (by decide) (by decide) hk9 hFc hP1 hD1
      clear hz9 hPc hDc hP1 hD1 hk9 hFc ht9 hvm9 u9 t9
      generalize H1 = H at hP hS ⊢
      replace hP : va_P D classes [(SO, .inr (11, oX11 PL DR TA RE FL RO HU ME TR NI)), (PL, .inr (5, oX5 FO aPL PL_rooms PL_doors PL_things PL_draw PL_drawTold)), (RO, .inr (7, oX7 FL aRO RO_lying)), (FL, .inr (0, oX0 PL aFL FL_parting)), ((aFL 2), .inl (cI, 64, .inl FL_far)), ((aRO 3), .inl (cI, 8, .inl o24_nROcost)), ((aFL 1), .inl (cI, 8, .inl FL_next))] H := hP.sub [0, 5, 1, 2, 3, 4, 6] rfl
      replace hD : va_D A [(SO, .inr (11, oX11 PL DR TA RE FL RO HU ME TR NI)), (PL, .inr (5, oX5 FO aPL PL_rooms PL_doors PL_things PL_draw PL_drawTold)), (RO, .inr (7, oX7 FL aRO RO_lying)), (FL, .inr (0, oX0 PL aFL FL_parting)), ((aFL 2), .inl (cI, 64, .inl FL_far)), ((aRO 3), .inl (cI, 8, .inl o24_nROcost)), ((aFL 1), .inl (cI, 8, .inl FL_next))] := hD.sub [0, 5, 1, 2, 3, 4, 6] (by decide) rfl
      clear hr24
      exact W.iret (v := r24) hx hb hr (fun t ht hW => ⟨⟨r24, (), rfl, trivial, ⟨o24_nROcost, by rw [ht]; exact hP, hD⟩⟩, hS.F ht⟩) hS.2.2 dX11_ways_27
set_option maxHeartbeats 4000000 in
set_option maxRecDepth 100000 in
theorem c_X11_pieces (l : Launch) (D : va_G) (cI : ClassId) (cB : ClassId) (cL : ClassId) (cZ : ClassId) (cG : ClassId) (SO : Nat) (PL : Nat) (DR : Nat) (TA : Nat) (RE : Nat) (FL : Nat) (RO : Nat) (HU : Nat) (ME : Nat) (TR : Nat) (NI : Nat) (aFL : Nat → Nat) (FL_parting : Int32) (PL_rooms : Int32) (aPL : Nat → Nat) (PL_doors : Int32) (PL_things : Int32) (FO : Nat) (PL_draw : Int32) (PL_drawTold : Int32) (FL_next : Nat → Int32) (b_PL_rooms : zB PL_rooms 0 8) (b_PL_doors : zB PL_doors 0 12) (b_PL_things : zB PL_things 0 6) : Met l yX11_pieces wsX11_pieces ({ frames := 3, cells := 0, slots := 0, locals := 70 }) (xr D [(cI, .int), (cB, .byte), (cL, .long), (cZ, .boolean), (cG, .array .int)] [(SO, .inr (11, oX11 PL DR TA RE FL RO HU ME TR NI)), (FL, .inr (0, oX0 PL aFL FL_parting)), (PL, .inr (5, oX5 FO aPL PL_rooms PL_doors PL_things PL_draw PL_drawTold)), ((aFL 1), .inl (cI, 8, .inl FL_next))] [.ref SO]) (vp_Si (fun r => True)) 0 0 (fun _ => False) := by
  refine Met.ofW (cc := cX11_pieces) (maxL := 1) (ret := (some .int)) (by decide) rfl ?_
  intro p e s m args below meth c s₁ B hml hv
  obtain ⟨rfl, hP, hK⟩ := hv
  have hx := B.exec
  have hb := B.bytes
  have hr := B.returns
  have hts := atoms_spec (ws := wsX11_pieces) B.pre
  have hown : s.vm.findClass RX11 = some m.cls := findClass_of_methodNamed B.named
  have hlocks := B.notSynchronized
  clear B
  have hl := lv_entry ([.ref SO]) (n := 1) (Nat.le_of_ble_eq_true rfl)
  rw [lg_entry_eq]
  generalize (lg_sl ([.ref SO]) ++ List.replicate (1 - (lg_sl ([.ref SO])).length) Slot.unset).toArray = ls at hl ⊢
  replace hl : lv_has ls 1 [(0, .ref SO)] := hl
  refine lv_aload_n hx hb dX11_pieces_0 rfl (lv_at hl 0 rfl) ?_
  refine va_get (D := D) (ci := 11) (v := .ref FL) (C := RX11) (T := TX11) (N := 10) hx hb hts iw_X11_pieces_X11 hown hK hP 0 rfl rfl 4 (by decide) (hts (.fieldLink RX11 40 "SoldHouse" "floor" "LSoldHouse$Floor;") (List.mem_of_getElem? (i := 1) rfl)) (fun _ h9 => h9) rfl dX11_pieces_1 ?_
  have hPc := hP.sub (ws' := [(FL, .inr (0, oX0 PL aFL FL_parting)), (PL, .inr (5, oX5 FO aPL PL_rooms PL_doors PL_things PL_draw PL_drawTold)), ((aFL 1), .inl (cI, 8, .inl FL_next))]) [1, 2, 3] rfl
  refine vp_callSi (va_runV (As := []) (rest := []) ⟨hx, hb, hml, hown, hts⟩ (c_X0_countPieces l D cI cB cL cZ cG FL PL aFL FL_parting PL_rooms aPL PL_doors PL_things FO PL_draw PL_drawTold FL_next b_PL_rooms b_PL_doors b_PL_things) (cwV 0 hts gX11_pieces_X0_countPieces rfl rfl rfl (by decide +kernel) ⟨Nat.le_of_ble_eq_true rfl, Nat.le_of_ble_eq_true rfl⟩) ⟨xr_blind, va_recv hK hP (ci := 0) (q0 := 1) rfl rfl, fun U hU hW => xr_mk hU hW hPc hK⟩ rfl rfl hl.1 rfl (lv_room (Nat.le_of_ble_eq_true rfl)) dX11_pieces_4 ⟨Nat.le_of_ble_eq_true rfl, Nat.le_of_ble_eq_true rfl⟩).run (fun r4 hr4 => ?_)
  clear hPc
  clear hr4
  exact W.iret (v := r4) hx hb hr (fun t ht hW => ⟨r4, rfl, trivial, ht⟩) (fun q hq => by cases hq) dX11_pieces_7
