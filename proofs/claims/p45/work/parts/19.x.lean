set_option maxHeartbeats 4000000 in
set_option maxRecDepth 100000 in
theorem c_X11_parts (l : Launch) (D : va_G) (cI : ClassId) (cB : ClassId) (cL : ClassId) (cZ : ClassId) (cG : ClassId) (SO : Nat) (PL : Nat) (DR : Nat) (TA : Nat) (RE : Nat) (FL : Nat) (RO : Nat) (HU : Nat) (ME : Nat) (TR : Nat) (NI : Nat) (aFL : Nat → Nat) (FL_parting : Int32) : Met l yX11_parts wsX11_parts ({ frames := 0, cells := 0, slots := 0, locals := 0 }) (xr D [(cI, .int), (cB, .byte), (cL, .long), (cZ, .boolean), (cG, .array .int)] [(SO, .inr (11, oX11 PL DR TA RE FL RO HU ME TR NI)), (FL, .inr (0, oX0 PL aFL FL_parting))] [.ref SO]) (vp_Si (fun r => True)) 0 0 (fun _ => False) := by
  refine Met.ofW (cc := cX11_parts) (maxL := 1) (ret := (some .int)) (by decide) rfl ?_
  intro p e s m args below meth c s₁ B hml hv
  obtain ⟨rfl, hP, hK⟩ := hv
  have hx := B.exec
  have hb := B.bytes
  have hr := B.returns
  have hts := atoms_spec (ws := wsX11_parts) B.pre
  have hown : s.vm.findClass RX11 = some m.cls := findClass_of_methodNamed B.named
  have hlocks := B.notSynchronized
  clear B
  have hl := lv_entry ([.ref SO]) (n := 1) (Nat.le_of_ble_eq_true rfl)
  rw [lg_entry_eq]
  generalize (lg_sl ([.ref SO]) ++ List.replicate (1 - (lg_sl ([.ref SO])).length) Slot.unset).toArray = ls at hl ⊢
  replace hl : lv_has ls 1 [(0, .ref SO)] := hl
  refine lv_aload_n hx hb dX11_parts_0 rfl (lv_at hl 0 rfl) ?_
  refine va_get (D := D) (ci := 11) (v := .ref FL) (C := RX11) (T := TX11) (N := 10) hx hb hts iw_X11_parts_X11 hown hK hP 0 rfl rfl 4 (by decide) (hts (.fieldLink RX11 40 "SoldHouse" "floor" "LSoldHouse$Floor;") (List.mem_of_getElem? (i := 1) rfl)) (fun _ h9 => h9) rfl dX11_parts_1 ?_
  refine va_get (D := D) (ci := 0) (v := .int FL_parting) (C := RX0) (T := TX0) (N := 5) hx hb hts iw_X11_parts_X0 hown hK hP 1 rfl rfl 4 (by decide) (hts (.fieldLink RX11 150 "SoldHouse$Floor" "parting" "I") (List.mem_of_getElem? (i := 2) rfl)) (fun _ h9 => h9) rfl dX11_parts_4 ?_
  exact W.iret (v := FL_parting) hx hb hr (fun t ht hW => ⟨FL_parting, rfl, trivial, ht⟩) (fun q hq => by cases hq) dX11_parts_7
set_option maxHeartbeats 4000000 in
set_option maxRecDepth 100000 in
theorem c_X11_hunt (l : Launch) (D : va_G) (cI : ClassId) (cB : ClassId) (cL : ClassId) (cZ : ClassId) (cG : ClassId) (SO : Nat) (x0 : Int32) (PL : Nat) (DR : Nat) (TA : Nat) (RE : Nat) (FL : Nat) (RO : Nat) (HU : Nat) (ME : Nat) (TR : Nat) (NI : Nat) (PL_rooms : Int32) (aPL : Nat → Nat) (PL_doors : Int32) (PL_things : Int32) (FO : Nat) (PL_draw : Int32) (PL_drawTold : Int32) (aHU : Nat → Nat) (HU_asks : Nat → Int32) (aFL : Nat → Nat) (FL_parting : Int32) (FL_near : Nat → Int32) (sz : Nat) (b_PL_rooms : zB PL_rooms 0 8) (b_PL_doors : zB PL_doors 0 12) (b_PL_things : zB PL_things 0 6) : Met l yX11_hunt wsX11_hunt ({ frames := 4, cells := 0, slots := 0, locals := 94 }) (xp D [(cI, .int), (cB, .byte), (cL, .long), (cZ, .boolean), (cG, .array .int)] [(SO, .inr (11, oX11 PL DR TA RE FL RO HU ME TR NI)), (PL, .inr (5, oX5 FO aPL PL_rooms PL_doors PL_things PL_draw PL_drawTold)), (HU, .inr (2, oX2 FL aHU)), ((aHU 1), .inl (cI, 256, .inl HU_asks)), (FL, .inr (0, oX0 PL aFL FL_parting)), ((aFL 3), .inl (cI, 12, .inl FL_near))] sz [] [.ref SO, .int x0]) (va_Qi (fun (r : Int32) (_ : Unit) => True) (fun (_ : Unit) (t : State) => ∃ (nHUasks : Nat → Int32), xB D (va_A [(SO, .inr (11, oX11 PL DR TA RE FL RO HU ME TR NI)), (PL, .inr (5, oX5 FO aPL PL_rooms PL_doors PL_things PL_draw PL_drawTold)), (HU, .inr (2, oX2 FL aHU)), ((aHU 1), .inl (cI, 256, .inl HU_asks)), (FL, .inr (0, oX0 PL aFL FL_parting)), ((aFL 3), .inl (cI, 12, .inl FL_near))] sz) [(SO, .inr (11, oX11 PL DR TA RE FL RO HU ME TR NI)), (PL, .inr (5, oX5 FO aPL PL_rooms PL_doors PL_things PL_draw PL_drawTold)), (HU, .inr (2, oX2 FL aHU)), ((aHU 1), .inl (cI, 256, .inl nHUasks)), (FL, .inr (0, oX0 PL aFL FL_parting)), ((aFL 3), .inl (cI, 12, .inl FL_near))] t) (va_A [(SO, .inr (11, oX11 PL DR TA RE FL RO HU ME TR NI)), (PL, .inr (5, oX5 FO aPL PL_rooms PL_doors PL_things PL_draw PL_drawTold)), (HU, .inr (2, oX2 FL aHU)), ((aHU 1), .inl (cI, 256, .inl HU_asks)), (FL, .inr (0, oX0 PL aFL FL_parting)), ((aFL 3), .inl (cI, 12, .inl FL_near))] sz)) 0 0 (va_A [(SO, .inr (11, oX11 PL DR TA RE FL RO HU ME TR NI)), (PL, .inr (5, oX5 FO aPL PL_rooms PL_doors PL_things PL_draw PL_drawTold)), (HU, .inr (2, oX2 FL aHU)), ((aHU 1), .inl (cI, 256, .inl HU_asks)), (FL, .inr (0, oX0 PL aFL FL_parting)), ((aFL 3), .inl (cI, 12, .inl FL_near))] sz) := by
  refine Met.ofW (cc := cX11_hunt) (maxL := 2) (ret := (some .int)) (by decide) rfl ?_
  intro p e s m args below meth c s₁ B hml hv
  obtain ⟨rfl, hsz, hP, hK, hD0, hNw⟩ := hv
  have hx := B.exec
  have hb := B.bytes
  have hr := B.returns
  have hts := atoms_spec (ws := wsX11_hunt) B.pre
  have hown : s.vm.findClass RX11 = some m.cls := findClass_of_methodNamed B.named
  have hlocks := B.notSynchronized
  clear B
  subst hsz
  have hD := hD0.self (sz := s.heap.size)
  clear hD0 hNw
  generalize hAe : va_A [(SO, .inr (11, oX11 PL DR TA RE FL RO HU ME TR NI)), (PL, .inr (5, oX5 FO aPL PL_rooms PL_doors PL_things PL_draw PL_drawTold)), (HU, .inr (2, oX2 FL aHU)), ((aHU 1), .inl (cI, 256, .inl HU_asks)), (FL, .inr (0, oX0 PL aFL FL_parting)), ((aFL 3), .inl (cI, 12, .inl FL_near))] s.heap.size = A at hD ⊢
  have hA : ∀ q : Nat, s.heap.size ≤ q → A q := fun q h => by rw [← hAe]; exact Or.inr h
  have hS : va_S A s.heap s.heap [] := va_S.rf
  clear hAe
  obtain ⟨H, hH⟩ : ∃ H : Heap, H = s.heap := ⟨_, rfl⟩
  obtain ⟨locs, hlocs⟩ : ∃ L : List Loc, L = [] := ⟨_, rfl⟩
  replace hP : va_P D classes [(SO, .inr (11, oX11 PL DR TA RE FL RO HU ME TR NI)), (PL, .inr (5, oX5 FO aPL PL_rooms PL_doors PL_things PL_draw PL_drawTold)), (HU, .inr (2, oX2 FL aHU)), ((aHU 1), .inl (cI, 256, .inl HU_asks)), (FL, .inr (0, oX0 PL aFL FL_parting)), ((aFL 3), .inl (cI, 12, .inl FL_near))] H := by rw [hH]; exact hP
  replace hS : va_S A s.heap H locs := by rw [hH, hlocs]; exact hS
  rw [← hH, ← hlocs]
  clear hlocs hH
  have hl := lv_entry ([.ref SO, .int x0]) (n := 2) (Nat.le_of_ble_eq_true rfl)
  rw [lg_entry_eq]
  generalize (lg_sl ([.ref SO, .int x0]) ++ List.replicate (2 - (lg_sl ([.ref SO, .int x0])).length) Slot.unset).toArray = ls at hl ⊢
  replace hl : lv_has ls 2 [(0, .ref SO), (1, .int x0)] := hl
  refine lv_iload_n hx hb dX11_hunt_0 rfl (lv_at hl 1 rfl) ?_
  refine lv_if_eq (tgt := 12) hx hb dX11_hunt_1 (by decide) (fun c1 => ?_) (fun c1 => ?_)
  · have be1t_x0 : zB x0 0 0 := zB_eq c1 (zB_top x0) (show zB 0 0 0 from ⟨by decide, by decide⟩) (by decide) (by decide)
    refine lv_iconst (v := (-1)) hx hb dX11_hunt_12 (by decide) ?_
    exact W.iret (v := (-1)) hx hb hr (fun t ht hW => ⟨⟨(-1), (), rfl, trivial, ⟨HU_asks, by rw [ht]; exact hP, hD⟩⟩, hS.F ht⟩) hS.2.2 dX11_hunt_13
  · refine lv_aload_n hx hb dX11_hunt_4 rfl (lv_at hl 0 rfl) ?_
    refine lv_iload_n hx hb dX11_hunt_5 rfl (lv_at hl 1 rfl) ?_
    have hPc := hP.sub (ws' := [(SO, .inr (11, oX11 PL DR TA RE FL RO HU ME TR NI)), (PL, .inr (5, oX5 FO aPL PL_rooms PL_doors PL_things PL_draw PL_drawTold))]) [0, 1] rfl
    refine vp_callSi (va_runV (As := [.int x0]) (rest := []) ⟨hx, hb, hml, hown, hts⟩ (c_X11_areRooms l D cI cB cL cZ cG SO x0 PL DR TA RE FL RO HU ME TR NI PL_rooms aPL PL_doors PL_things FO PL_draw PL_drawTold b_PL_rooms b_PL_doors b_PL_things) (cwV 1 hts gX11_hunt_X11_areRooms rfl rfl rfl (by decide +kernel) ⟨Nat.le_of_ble_eq_true rfl, Nat.le_of_ble_eq_true rfl⟩) ⟨xr_blind, va_recv hK hP (ci := 11) (q0 := 0) rfl rfl, fun U hU hW => xr_mk hU hW hPc hK⟩ rfl rfl hl.1 rfl (lv_room (Nat.le_of_ble_eq_true rfl)) dX11_hunt_6 ⟨Nat.le_of_ble_eq_true rfl, Nat.le_of_ble_eq_true rfl⟩).run (fun r6 hr6 => ?_)
    clear hPc
    rcases hr6 with rfl | ⟨rfl, hr6_1_0⟩
    · refine lv_if_ne (tgt := 14) hx hb dX11_hunt_9 (by decide) (fun c9 => absurd (by decide) c9) (fun _ => ?_)
      refine lv_iconst (v := (-1)) hx hb dX11_hunt_12 (by decide) ?_
      exact W.iret (v := (-1)) hx hb hr (fun t ht hW => ⟨⟨(-1), (), rfl, trivial, ⟨HU_asks, by rw [ht]; exact hP, hD⟩⟩, hS.F ht⟩) hS.2.2 dX11_hunt_13
    · refine lv_if_ne (tgt := 14) hx hb dX11_hunt_9 (by decide) (fun _ => ?_) (fun c9 => absurd c9 (by decide))
      refine lv_aload_n hx hb dX11_hunt_14 rfl (lv_at hl 0 rfl) ?_
      refine va_get (D := D) (ci := 11) (v := .ref HU) (C := RX11) (T := TX11) (N := 10) hx hb hts iw_X11_hunt_X11 hown hK hP 0 rfl rfl 6 (by decide) (hts (.fieldLink RX11 56 "SoldHouse" "hunter" "LSoldHouse$Hunter;") (List.mem_of_getElem? (i := 1) rfl)) (fun _ h9 => h9) rfl dX11_hunt_15 ?_
      refine lv_iload_n hx hb dX11_hunt_18 rfl (lv_at hl 1 rfl) ?_
      have hPc := hP.sub (ws' := [(HU, .inr (2, oX2 FL aHU)), ((aHU 1), .inl (cI, 256, .inl HU_asks)), (FL, .inr (0, oX0 PL aFL FL_parting)), (PL, .inr (5, oX5 FO aPL PL_rooms PL_doors PL_things PL_draw PL_drawTold)), ((aFL 3), .inl (cI, 12, .inl FL_near))]) [2, 3, 4, 1, 5] rfl
      have hDc := hD.sub (ws' := [(HU, .inr (2, oX2 FL aHU)), ((aHU 1), .inl (cI, 256, .inl HU_asks)), (FL, .inr (0, oX0 PL aFL FL_parting)), (PL, .inr (5, oX5 FO aPL PL_rooms PL_doors PL_things PL_draw PL_drawTold)), ((aFL 3), .inl (cI, 12, .inl FL_near))]) [2, 3, 4, 1, 5] (by decide) rfl
      have hFc := va_free (wc := [(HU, .inr (2, oX2 FL aHU)), ((aHU 1), .inl (cI, 256, .inl HU_asks)), (FL, .inr (0, oX0 PL aFL FL_parting)), (PL, .inr (5, oX5 FO aPL PL_rooms PL_doors PL_things PL_draw PL_drawTold)), ((aFL 3), .inl (cI, 12, .inl FL_near))]) hD hS hA [2, 3, 4, 1, 5] rfl
      refine va_calli (va_runV (As := [.int x0]) (rest := []) ⟨hx, hb, hml, hown, hts⟩ (c_X2_fewestAsks l D cI cB cL cZ cG HU x0 FL aHU HU_asks PL aFL FL_parting PL_rooms aPL PL_doors PL_things FO PL_draw PL_drawTold FL_near H.size hr6_1_0 b_PL_rooms b_PL_doors b_PL_things) (cwV 1 hts gX11_hunt_X2_fewestAsks rfl rfl rfl (by decide +kernel) ⟨Nat.le_of_ble_eq_true rfl, Nat.le_of_ble_eq_true rfl⟩) ⟨xp_blind, va_recv hK hP (ci := 2) (q0 := 2) rfl rfl, fun U hU hW => xp_mk hU hW hPc hK hDc xNw_nil⟩ rfl rfl hl.1 rfl (lv_room (Nat.le_of_ble_eq_true rfl)) dX11_hunt_19 ⟨Nat.le_of_ble_eq_true rfl, Nat.le_of_ble_eq_true rfl⟩) hS (fun q _ h => hFc q h) hFc (fun r19 u9 t9 H1 locs ht9 hvm9 hr19 hB9 hz9 hk9 hS => ?_)
      obtain ⟨o19_nHUasks, hP1, hD1⟩ := hB9
      rw [ht9] at hP1
      obtain ⟨hP, hD⟩ := va_join (wr := [(SO, .inr (11, oX11 PL DR TA RE FL RO HU ME TR NI))]) (w1 := [(HU, .inr (2, oX2 FL aHU)), ((aHU 1), .inl (cI, 256, .inl o19_nHUasks)), (FL, .inr (0, oX0 PL aFL FL_parting)), (PL, .inr (5, oX5 FO aPL PL_rooms PL_doors PL_things PL_draw PL_drawTold)), ((aFL 3), .inl (cI, 12, .inl FL_near))]) hP hD [2, 3, 4, 1, 5] [0] rfl rfl (by decide) (by decide) hk9 hFc hP1 hD1
      clear hz9 hPc hDc hP1 hD1 hk9 hFc ht9 hvm9 u9 t9
      generalize H1 = H at hP hS ⊢
      replace hP : va_P D classes [(SO, .inr (11, oX11 PL DR TA RE FL RO HU ME TR NI)), (PL, .inr (5, oX5 FO aPL PL_rooms PL_doors PL_things PL_draw PL_drawTold)), (HU, .inr (2, oX2 FL aHU)), ((aHU 1), .inl (cI, 256, .inl o19_nHUasks)), (FL, .inr (0, oX0 PL aFL FL_parting)), ((aFL 3), .inl (cI, 12, .inl FL_near))] H := hP.sub [0, 4, 1, 2, 3, 5] rfl
      replace hD : va_D A [(SO, .inr (11, oX11 PL DR TA RE FL RO HU ME TR NI)), (PL, .inr (5, oX5 FO aPL PL_rooms PL_doors PL_things PL_draw PL_drawTold)), (HU, .inr (2, oX2 FL aHU)), ((aHU 1), .inl (cI, 256, .inl o19_nHUasks)), (FL, .inr (0, oX0 PL aFL FL_parting)), ((aFL 3), .inl (cI, 12, .inl FL_near))] := hD.sub [0, 4, 1, 2, 3, 5] (by decide) rfl
      clear hr19
      exact W.iret (v := r19) hx hb hr (fun t ht hW => ⟨⟨r19, (), rfl, trivial, ⟨o19_nHUasks, by rw [ht]; exact hP, hD⟩⟩, hS.F ht⟩) hS.2.2 dX11_hunt_22
set_option maxHeartbeats 4000000 in
set_option maxRecDepth 100000 in
theorem c_X11_first (l : Launch) (D : va_G) (cI : ClassId) (cB : ClassId) (cL : ClassId) (cZ : ClassId) (cG : ClassId) (SO : Nat) (x0 : Int32) (PL : Nat) (DR : Nat) (TA : Nat) (RE : Nat) (FL : Nat) (RO : Nat) (HU : Nat) (ME : Nat) (TR : Nat) (NI : Nat) (PL_rooms : Int32) (aPL : Nat → Nat) (PL_doors : Int32) (PL_things : Int32) (FO : Nat) (PL_draw : Int32) (PL_drawTold : Int32) (aHU : Nat → Nat) (HU_asks : Nat → Int32) (aFL : Nat → Nat) (FL_parting : Int32) (FL_near : Nat → Int32) (sz : Nat) (b_PL_rooms : zB PL_rooms 0 8) (b_PL_doors : zB PL_doors 0 12) (b_PL_things : zB PL_things 0 6) : Met l yX11_first wsX11_first ({ frames := 5, cells := 0, slots := 0, locals := 115 }) (xp D [(cI, .int), (cB, .byte), (cL, .long), (cZ, .boolean), (cG, .array .int)] [(SO, .inr (11, oX11 PL DR TA RE FL RO HU ME TR NI)), (PL, .inr (5, oX5 FO aPL PL_rooms PL_doors PL_things PL_draw PL_drawTold)), (HU, .inr (2, oX2 FL aHU)), ((aHU 1), .inl (cI, 256, .inl HU_asks)), (FL, .inr (0, oX0 PL aFL FL_parting)), ((aFL 3), .inl (cI, 12, .inl FL_near))] sz [] [.ref SO, .int x0]) (va_Qi (fun (r : Int32) (_ : Unit) => zB r (-1) 11) (fun (_ : Unit) (t : State) => ∃ (nHUasks : Nat → Int32), xB D (va_A [(SO, .inr (11, oX11 PL DR TA RE FL RO HU ME TR NI)), (PL, .inr (5, oX5 FO aPL PL_rooms PL_doors PL_things PL_draw PL_drawTold)), (HU, .inr (2, oX2 FL aHU)), ((aHU 1), .inl (cI, 256, .inl HU_asks)), (FL, .inr (0, oX0 PL aFL FL_parting)), ((aFL 3), .inl (cI, 12, .inl FL_near))] sz) [(SO, .inr (11, oX11 PL DR TA RE FL RO HU ME TR NI)), (PL, .inr (5, oX5 FO aPL PL_rooms PL_doors PL_things PL_draw PL_drawTold)), (HU, .inr (2, oX2 FL aHU)), ((aHU 1), .inl (cI, 256, .inl nHUasks)), (FL, .inr (0, oX0 PL aFL FL_parting)), ((aFL 3), .inl (cI, 12, .inl FL_near))] t) (va_A [(SO, .inr (11, oX11 PL DR TA RE FL RO HU ME TR NI)), (PL, .inr (5, oX5 FO aPL PL_rooms PL_doors PL_things PL_draw PL_drawTold)), (HU, .inr (2, oX2 FL aHU)), ((aHU 1), .inl (cI, 256, .inl HU_asks)), (FL, .inr (0, oX0 PL aFL FL_parting)), ((aFL 3), .inl (cI, 12, .inl FL_near))] sz)) 0 0 (va_A [(SO, .inr (11, oX11 PL DR TA RE FL RO HU ME TR NI)), (PL, .inr (5, oX5 FO aPL PL_rooms PL_doors PL_things PL_draw PL_drawTold)), (HU, .inr (2, oX2 FL aHU)), ((aHU 1), .inl (cI, 256, .inl HU_asks)), (FL, .inr (0, oX0 PL aFL FL_parting)), ((aFL 3), .inl (cI, 12, .inl FL_near))] sz) := by
  refine Met.ofW (cc := cX11_first) (maxL := 2) (ret := (some .int)) (by decide) rfl ?_
  intro p e s m args below meth c s₁ B hml hv
  obtain ⟨rfl, hsz, hP, hK, hD0, hNw⟩ := hv
  have hx := B.exec
  have hb := B.bytes
  have hr := B.returns
  have hts := atoms_spec (ws := wsX11_first) B.pre
  have hown : s.vm.findClass RX11 = some m.cls := findClass_of_methodNamed B.named
  have hlocks := B.notSynchronized
  clear B
  subst hsz
  have hD := hD0.self (sz := s.heap.size)
  clear hD0 hNw
  generalize hAe : va_A [(SO, .inr (11, oX11 PL DR TA RE FL RO HU ME TR NI)), (PL, .inr (5, oX5 FO aPL PL_rooms PL_doors PL_things PL_draw PL_drawTold)), (HU, .inr (2, oX2 FL aHU)), ((aHU 1), .inl (cI, 256, .inl HU_asks)), (FL, .inr (0, oX0 PL aFL FL_parting)), ((aFL 3), .inl (cI, 12, .inl FL_near))] s.heap.size = A at hD ⊢
  have hA : ∀ q : Nat, s.heap.size ≤ q → A q := fun q h => by rw [← hAe]; exact Or.inr h
  have hS : va_S A s.heap s.heap [] := va_S.rf
  clear hAe
  obtain ⟨H, hH⟩ : ∃ H : Heap, H = s.heap := ⟨_, rfl⟩
  obtain ⟨locs, hlocs⟩ : ∃ L : List Loc, L = [] := ⟨_, rfl⟩
  replace hP : va_P D classes [(SO, .inr (11, oX11 PL DR TA RE FL RO HU ME TR NI)), (PL, .inr (5, oX5 FO aPL PL_rooms PL_doors PL_things PL_draw PL_drawTold)), (HU, .inr (2, oX2 FL aHU)), ((aHU 1), .inl (cI, 256, .inl HU_asks)), (FL, .inr (0, oX0 PL aFL FL_parting)), ((aFL 3), .inl (cI, 12, .inl FL_near))] H := by rw [hH]; exact hP
  replace hS : va_S A s.heap H locs := by rw [hH, hlocs]; exact hS
  rw [← hH, ← hlocs]
  clear hlocs hH
  have hl := lv_entry ([.ref SO, .int x0]) (n := 2) (Nat.le_of_ble_eq_true rfl)
  rw [lg_entry_eq]
  generalize (lg_sl ([.ref SO, .int x0]) ++ List.replicate (2 - (lg_sl ([.ref SO, .int x0])).length) Slot.unset).toArray = ls at hl ⊢
  replace hl : lv_has ls 2 [(0, .ref SO), (1, .int x0)] := hl
  refine lv_iload_n hx hb dX11_first_0 rfl (lv_at hl 1 rfl) ?_
  refine lv_if_eq (tgt := 12) hx hb dX11_first_1 (by decide) (fun c1 => ?_) (fun c1 => ?_)
  · have be1t_x0 : zB x0 0 0 := zB_eq c1 (zB_top x0) (show zB 0 0 0 from ⟨by decide, by decide⟩) (by decide) (by decide)
    refine lv_iconst (v := (-1)) hx hb dX11_first_12 (by decide) ?_
    exact W.iret (v := (-1)) hx hb hr (fun t ht hW => ⟨⟨(-1), (), rfl, (zB_w (show zB (-1) (-1) (-1) from ⟨by decide, by decide⟩) (by decide) (by decide)), ⟨HU_asks, by rw [ht]; exact hP, hD⟩⟩, hS.F ht⟩) hS.2.2 dX11_first_13
  · refine lv_aload_n hx hb dX11_first_4 rfl (lv_at hl 0 rfl) ?_
    refine lv_iload_n hx hb dX11_first_5 rfl (lv_at hl 1 rfl) ?_
    have hPc := hP.sub (ws' := [(SO, .inr (11, oX11 PL DR TA RE FL RO HU ME TR NI)), (PL, .inr (5, oX5 FO aPL PL_rooms PL_doors PL_things PL_draw PL_drawTold))]) [0, 1] rfl
    refine vp_callSi (va_runV (As := [.int x0]) (rest := []) ⟨hx, hb, hml, hown, hts⟩ (c_X11_areRooms l D cI cB cL cZ cG SO x0 PL DR TA RE FL RO HU ME TR NI PL_rooms aPL PL_doors PL_things FO PL_draw PL_drawTold b_PL_rooms b_PL_doors b_PL_things) (cwV 1 hts gX11_first_X11_areRooms rfl rfl rfl (by decide +kernel) ⟨Nat.le_of_ble_eq_true rfl, Nat.le_of_ble_eq_true rfl⟩) ⟨xr_blind, va_recv hK hP (ci := 11) (q0 := 0) rfl rfl, fun U hU hW => xr_mk hU hW hPc hK⟩ rfl rfl hl.1 rfl (lv_room (Nat.le_of_ble_eq_true rfl)) dX11_first_6 ⟨Nat.le_of_ble_eq_true rfl, Nat.le_of_ble_eq_true rfl⟩).run (fun r6 hr6 => ?_)
    clear hPc
    rcases hr6 with rfl | ⟨rfl, hr6_1_0⟩
    · refine lv_if_ne (tgt := 14) hx hb dX11_first_9 (by decide) (fun c9 => absurd (by decide) c9) (fun _ => ?_)
      refine lv_iconst (v := (-1)) hx hb dX11_first_12 (by decide) ?_
      exact W.iret (v := (-1)) hx hb hr (fun t ht hW => ⟨⟨(-1), (), rfl, (zB_w (show zB (-1) (-1) (-1) from ⟨by decide, by decide⟩) (by decide) (by decide)), ⟨HU_asks, by rw [ht]; exact hP, hD⟩⟩, hS.F ht⟩) hS.2.2 dX11_first_13
    · refine lv_if_ne (tgt := 14) hx hb dX11_first_9 (by decide) (fun _ => ?_) (fun c9 => absurd c9 (by decide))
      refine lv_aload_n hx hb dX11_first_14 rfl (lv_at hl 0 rfl) ?_
      refine va_get (D := D) (ci := 11) (v := .ref HU) (C := RX11) (T := TX11) (N := 10) hx hb hts iw_X11_first_X11 hown hK hP 0 rfl rfl 6 (by decide) (hts (.fieldLink RX11 56 "SoldHouse" "hunter" "LSoldHouse$Hunter;") (List.mem_of_getElem? (i := 1) rfl)) (fun _ h9 => h9) rfl dX11_first_15 ?_
      refine lv_iload_n hx hb dX11_first_18 rfl (lv_at hl 1 rfl) ?_
      have hPc := hP.sub (ws' := [(HU, .inr (2, oX2 FL aHU)), ((aHU 1), .inl (cI, 256, .inl HU_asks)), (FL, .inr (0, oX0 PL aFL FL_parting)), (PL, .inr (5, oX5 FO aPL PL_rooms PL_doors PL_things PL_draw PL_drawTold)), ((aFL 3), .inl (cI, 12, .inl FL_near))]) [2, 3, 4, 1, 5] rfl
      have hDc := hD.sub (ws' := [(HU, .inr (2, oX2 FL aHU)), ((aHU 1), .inl (cI, 256, .inl HU_asks)), (FL, .inr (0, oX0 PL aFL FL_parting)), (PL, .inr (5, oX5 FO aPL PL_rooms PL_doors PL_things PL_draw PL_drawTold)), ((aFL 3), .inl (cI, 12, .inl FL_near))]) [2, 3, 4, 1, 5] (by decide) rfl
      have hFc := va_free (wc := [(HU, .inr (2, oX2 FL aHU)), ((aHU 1), .inl (cI, 256, .inl HU_asks)), (FL, .inr (0, oX0 PL aFL FL_parting)), (PL, .inr (5, oX5 FO aPL PL_rooms PL_doors PL_things PL_draw PL_drawTold)), ((aFL 3), .inl (cI, 12, .inl FL_near))]) hD hS hA [2, 3, 4, 1, 5] rfl
      refine va_calli (va_runV (As := [.int x0]) (rest := []) ⟨hx, hb, hml, hown, hts⟩ (c_X2_firstDoor l D cI cB cL cZ cG HU x0 FL aHU HU_asks PL aFL FL_parting PL_rooms aPL PL_doors PL_things FO PL_draw PL_drawTold FL_near H.size hr6_1_0 b_PL_rooms b_PL_doors b_PL_things) (cwV 1 hts gX11_first_X2_firstDoor rfl rfl rfl (by decide +kernel) ⟨Nat.le_of_ble_eq_true rfl, Nat.le_of_ble_eq_true rfl⟩) ⟨xp_blind, va_recv hK hP (ci := 2) (q0 := 2) rfl rfl, fun U hU hW => xp_mk hU hW hPc hK hDc xNw_nil⟩ rfl rfl hl.1 rfl (lv_room (Nat.le_of_ble_eq_true rfl)) dX11_first_19 ⟨Nat.le_of_ble_eq_true rfl, Nat.le_of_ble_eq_true rfl⟩) hS (fun q _ h => hFc q h) hFc (fun r19 u9 t9 H1 locs ht9 hvm9 hr19 hB9 hz9 hk9 hS => ?_)
      obtain ⟨o19_nHUasks, hP1, hD1⟩ := hB9
      rw [ht9] at hP1
      obtain ⟨hP, hD⟩ := va_join (wr := [(SO, .inr (11, oX11 PL DR TA RE FL RO HU ME TR NI))]) (w1 := [(HU, .inr (2, oX2 FL aHU)), ((aHU 1), .inl (cI, 256, .inl o19_nHUasks)), (FL, .inr (0, oX0 PL aFL FL_parting)), (PL, .inr (5, oX5 FO aPL PL_rooms PL_doors PL_things PL_draw PL_drawTold)), ((aFL 3), .inl (cI, 12, .inl FL_near))]) hP hD [2, 3, 4, 1, 5] [0] rfl rfl (by decide) (by decide) hk9 hFc hP1 hD1
      clear hz9 hPc hDc hP1 hD1 hk9 hFc ht9 hvm9 u9 t9
      generalize H1 = H at hP hS ⊢
      replace hP : va_P D classes [(SO, .inr (11, oX11 PL DR TA RE FL RO HU ME TR NI)), (PL, .inr (5, oX5 FO aPL PL_rooms PL_doors PL_things PL_draw PL_drawTold)), (HU, .inr (2, oX2 FL aHU)), ((aHU 1), .inl (cI, 256, .inl o19_nHUasks)), (FL, .inr (0, oX0 PL aFL FL_parting)), ((aFL 3), .inl (cI, 12, .inl FL_near))] H := hP.sub [0, 4, 1, 2, 3, 5] rfl
      replace hD : va_D A [(SO, .inr (11, oX11 PL DR TA RE FL RO HU ME TR NI)), (PL, .inr (5, oX5 FO aPL PL_rooms PL_doors PL_things PL_draw PL_drawTold)), (HU, .inr (2, oX2 FL aHU)), ((aHU 1), .inl (cI, 256, .inl o19_nHUasks)), (FL, .inr (0, oX0 PL aFL FL_parting)), ((aFL 3), .inl (cI, 12, .inl FL_near))] := hD.sub [0, 4, 1, 2, 3, 5] (by decide) rfl
      exact W.iret (v := r19) hx hb hr (fun t ht hW => ⟨⟨r19, (), rfl, hr19, ⟨o19_nHUasks, by rw [ht]; exact hP, hD⟩⟩, hS.F ht⟩) hS.2.2 dX11_first_22
set_option maxHeartbeats 4000000 in
set_option maxRecDepth 100000 in
theorem c_X11_meet (l : Launch) (D : va_G) (cI : ClassId) (cB : ClassId) (cL : ClassId) (cZ : ClassId) (cG : ClassId) (SO : Nat) (x0 : Int32) (x1 : Int32) (x2 : Int32) (PL : Nat) (DR : Nat) (TA : Nat) (RE : Nat) (FL : Nat) (RO : Nat) (HU : Nat) (ME : Nat) (TR : Nat) (NI : Nat) (PL_rooms : Int32) (aPL : Nat → Nat) (PL_doors : Int32) (PL_things : Int32) (FO : Nat) (PL_draw : Int32) (PL_drawTold : Int32) (aFL : Nat → Nat) (FL_parting : Int32) (FL_far : Nat → Int32) (b_PL_rooms : zB PL_rooms 0 8) (b_PL_doors : zB PL_doors 0 12) (b_PL_things : zB PL_things 0 6) (s_FL_far_0 : zA FL_far 0 64 (-1) 7) : Met l yX11_meet wsX11_meet ({ frames := 3, cells := 0, slots := 0, locals := 70 }) (xr D [(cI, .int), (cB, .byte), (cL, .long), (cZ, .boolean), (cG, .array .int)] [(SO, .inr (11, oX11 PL DR TA RE FL RO HU ME TR NI)), (PL, .inr (5, oX5 FO aPL PL_rooms PL_doors PL_things PL_draw PL_drawTold)), (FL, .inr (0, oX0 PL aFL FL_parting)), ((aFL 2), .inl (cI, 64, .inl FL_far))] [.ref SO, .int x0, .int x1, .int x2]) (vp_Si (fun r => zB r (-1) 7)) 0 0 (fun _ => False) := by
  refine Met.ofW (cc := cX11_meet) (maxL := 5) (ret := (some .int)) (by decide) rfl ?_
  intro p e s m args below meth c s₁ B hml hv
  obtain ⟨rfl, hP, hK⟩ := hv
  have hx := B.exec
  have hb := B.bytes
  have hr := B.returns
  have hts := atoms_spec (ws := wsX11_meet) B.pre
  have hown : s.vm.findClass RX11 = some m.cls := findClass_of_methodNamed B.named
  have hlocks := B.notSynchronized
  clear B
  have hl := lv_entry ([.ref SO, .int x0, .int x1, .int x2]) (n := 5) (Nat.le_of_ble_eq_true rfl)
  rw [lg_entry_eq]
  generalize (lg_sl ([.ref SO, .int x0, .int x1, .int x2]) ++ List.replicate (5 - (lg_sl ([.ref SO, .int x0, .int x1, .int x2])).length) Slot.unset).toArray = ls at hl ⊢
  replace hl : lv_has ls 5 [(0, .ref SO), (1, .int x0), (2, .int x1), (3, .int x2)] := hl
  refine lv_aload_n hx hb dX11_meet_0 rfl (lv_at hl 0 rfl) ?_
  refine lv_iload_n hx hb dX11_meet_1 rfl (lv_at hl 1 rfl) ?_
  have hPc := hP.sub (ws' := [(SO, .inr (11, oX11 PL DR TA RE FL RO HU ME TR NI)), (PL, .inr (5, oX5 FO aPL PL_rooms PL_doors PL_things PL_draw PL_drawTold))]) [0, 1] rfl
  refine vp_callSi (va_runV (As := [.int x0]) (rest := []) ⟨hx, hb, hml, hown, hts⟩ (c_X11_isRoom l D cI cB cL cZ cG SO x0 PL DR TA RE FL RO HU ME TR NI PL_rooms aPL PL_doors PL_things FO PL_draw PL_drawTold b_PL_rooms b_PL_doors b_PL_things) (cwV 1 hts gX11_meet_X11_isRoom rfl rfl rfl (by decide +kernel) ⟨Nat.le_of_ble_eq_true rfl, Nat.le_of_ble_eq_true rfl⟩) ⟨xr_blind, va_recv hK hP (ci := 11) (q0 := 0) rfl rfl, fun U hU hW => xr_mk hU hW hPc hK⟩ rfl rfl hl.1 rfl (lv_room (Nat.le_of_ble_eq_true rfl)) dX11_meet_2 ⟨Nat.le_of_ble_eq_true rfl, Nat.le_of_ble_eq_true rfl⟩).run (fun r2 hr2 => ?_)
  clear hPc
  rcases hr2 with rfl | ⟨rfl, hr2_1_0⟩
  · refine lv_if_eq (tgt := 16) hx hb dX11_meet_5 (by decide) (fun _ => ?_) (fun c5 => absurd (by decide) c5)
    refine lv_iconst (v := (-1)) hx hb dX11_meet_16 (by decide) ?_
    exact W.iret (v := (-1)) hx hb hr (fun t ht hW => ⟨(-1), rfl, (zB_w (show zB (-1) (-1) (-1) from ⟨by decide, by decide⟩) (by decide) (by decide)), ht⟩) (fun q hq => by cases hq) dX11_meet_17
  · refine lv_if_eq (tgt := 16) hx hb dX11_meet_5 (by decide) (fun c5 => absurd c5 (by decide)) (fun _ => ?_)
    refine lv_aload_n hx hb dX11_meet_8 rfl (lv_at hl 0 rfl) ?_
    refine lv_iload_n hx hb dX11_meet_9 rfl (lv_at hl 2 rfl) ?_
    have hPc := hP.sub (ws' := [(SO, .inr (11, oX11 PL DR TA RE FL RO HU ME TR NI)), (PL, .inr (5, oX5 FO aPL PL_rooms PL_doors PL_things PL_draw PL_drawTold))]) [0, 1] rfl
    refine vp_callSi (va_runV (As := [.int x1]) (rest := []) ⟨hx, hb, hml, hown, hts⟩ (c_X11_isRoom l D cI cB cL cZ cG SO x1 PL DR TA RE FL RO HU ME TR NI PL_rooms aPL PL_doors PL_things FO PL_draw PL_drawTold b_PL_rooms b_PL_doors b_PL_things) (cwV 1 hts gX11_meet_X11_isRoom rfl rfl rfl (by decide +kernel) ⟨Nat.le_of_ble_eq_true rfl, Nat.le_of_ble_eq_true rfl⟩) ⟨xr_blind, va_recv hK hP (ci := 11) (q0 := 0) rfl rfl, fun U hU hW => xr_mk hU hW hPc hK⟩ rfl rfl hl.1 rfl (lv_room (Nat.le_of_ble_eq_true rfl)) dX11_meet_10 ⟨Nat.le_of_ble_eq_true rfl, Nat.le_of_ble_eq_true rfl⟩).run (fun r10 hr10 => ?_)
    clear hPc
    rcases hr10 with rfl | ⟨rfl, hr10_1_0⟩
    · refine lv_if_ne (tgt := 18) hx hb dX11_meet_13 (by decide) (fun c13 => absurd (by decide) c13) (fun _ => ?_)
      refine lv_iconst (v := (-1)) hx hb dX11_meet_16 (by decide) ?_
      exact W.iret (v := (-1)) hx hb hr (fun t ht hW => ⟨(-1), rfl, (zB_w (show zB (-1) (-1) (-1) from ⟨by decide, by decide⟩) (by decide) (by decide)), ht⟩) (fun q hq => by cases hq) dX11_meet_17
    · refine lv_if_ne (tgt := 18) hx hb dX11_meet_13 (by decide) (fun _ => ?_) (fun c13 => absurd c13 (by decide))
      refine lv_aload_n hx hb dX11_meet_18 rfl (lv_at hl 0 rfl) ?_
      refine va_get (D := D) (ci := 11) (v := .ref FL) (C := RX11) (T := TX11) (N := 10) hx hb hts iw_X11_meet_X11 hown hK hP 0 rfl rfl 4 (by decide) (hts (.fieldLink RX11 40 "SoldHouse" "floor" "LSoldHouse$Floor;") (List.mem_of_getElem? (i := 1) rfl)) (fun _ h9 => h9) rfl dX11_meet_19 ?_
      refine lv_iload_n hx hb dX11_meet_22 rfl (lv_at hl 1 rfl) ?_
      refine lv_iload_n hx hb dX11_meet_23 rfl (lv_at hl 2 rfl) ?_
      have hPc := hP.sub (ws' := [(FL, .inr (0, oX0 PL aFL FL_parting)), ((aFL 2), .inl (cI, 64, .inl FL_far)), (PL, .inr (5, oX5 FO aPL PL_rooms PL_doors PL_things PL_draw PL_drawTold))]) [2, 3, 1] rfl
      refine vp_callSi (va_runV (As := [.int x0, .int x1]) (rest := []) ⟨hx, hb, hml, hown, hts⟩ (c_X0_meetingRoom l D cI cB cL cZ cG FL x0 x1 PL aFL FL_parting FL_far PL_rooms aPL PL_doors PL_things FO PL_draw PL_drawTold hr2_1_0 hr10_1_0 b_PL_rooms b_PL_doors b_PL_things s_FL_far_0) (cwV 2 hts gX11_meet_X0_meetingRoom rfl rfl rfl (by decide +kernel) ⟨Nat.le_of_ble_eq_true rfl, Nat.le_of_ble_eq_true rfl⟩) ⟨xr_blind, va_recv hK hP (ci := 0) (q0 := 2) rfl rfl, fun U hU hW => xr_mk hU hW hPc hK⟩ rfl rfl hl.1 rfl (lv_room (Nat.le_of_ble_eq_true rfl)) dX11_meet_24 ⟨Nat.le_of_ble_eq_true rfl, Nat.le_of_ble_eq_true rfl⟩).run (fun r24 hr24 => ?_)
      clear hPc
      refine lv_istore (lv' := [(4, .int r24), (0, .ref SO), (1, .int x0), (2, .int x1), (3, .int x2)]) hx hb dX11_meet_27 hl (by decide) rfl (fun ls hl => ?_)
      refine lv_iload hx hb dX11_meet_29 (lv_at hl 0 rfl) ?_
      refine lv_iconst (v := (-1)) hx hb dX11_meet_31 (by decide) ?_
      refine lv_icmp_ne (tgt := 37) hx hb dX11_meet_32 (by decide) (fun c32 => ?_) (fun c32 => ?_)
      · have bn32t_r24 : zB r24 0 7 := zB_neL c32 hr24 (show zB (-1) (-1) (-1) from ⟨by decide, by decide⟩) (by decide)
        refine lv_iload_n hx hb dX11_meet_37 rfl (lv_at hl 4 rfl) ?_
        by_cases c38_0 : x2 = 0
        · obtain rfl := c38_0
          refine lv_lookup (off := 26) (tgt := 64) hx hb dX11_meet_38 (by decide) (by decide) (by decide) ?_
          refine lv_aload_n hx hb dX11_meet_64 rfl (lv_at hl 1 rfl) ?_
          refine va_get (D := D) (ci := 11) (v := .ref FL) (C := RX11) (T := TX11) (N := 10) hx hb hts iw_X11_meet_X11 hown hK hP 0 rfl rfl 4 (by decide) (hts (.fieldLink RX11 40 "SoldHouse" "floor" "LSoldHouse$Floor;") (List.mem_of_getElem? (i := 1) rfl)) (fun _ h9 => h9) rfl dX11_meet_65 ?_
          refine lv_iload hx hb dX11_meet_68 (lv_at hl 0 rfl) ?_
          refine lv_iload_n hx hb dX11_meet_70 rfl (lv_at hl 2 rfl) ?_
          refine lv_iload_n hx hb dX11_meet_71 rfl (lv_at hl 3 rfl) ?_
          have hPc := hP.sub (ws' := [(FL, .inr (0, oX0 PL aFL FL_parting)), ((aFL 2), .inl (cI, 64, .inl FL_far))]) [2, 3] rfl
          refine vp_callSi (va_runV (As := [.int r24, .int x0, .int x1]) (rest := []) ⟨hx, hb, hml, hown, hts⟩ (c_X0_minutesTo l D cI cB cL cZ cG FL r24 x0 x1 PL aFL FL_parting FL_far bn32t_r24 hr2_1_0 hr10_1_0 s_FL_far_0) (cwV 3 hts gX11_meet_X0_minutesTo rfl rfl rfl (by decide +kernel) ⟨Nat.le_of_ble_eq_true rfl, Nat.le_of_ble_eq_true rfl⟩) ⟨xr_blind, va_recv hK hP (ci := 0) (q0 := 2) rfl rfl, fun U hU hW => xr_mk hU hW hPc hK⟩ rfl rfl hl.1 rfl (lv_room (Nat.le_of_ble_eq_true rfl)) dX11_meet_72 ⟨Nat.le_of_ble_eq_true rfl, Nat.le_of_ble_eq_true rfl⟩).run (fun r72 hr72 => ?_)
          clear hPc
          exact W.iret (v := r72) hx hb hr (fun t ht hW => ⟨r72, rfl, hr72, ht⟩) (fun q hq => by cases hq) dX11_meet_75
        by_cases c38_1 : x2 = 1
        · obtain rfl := c38_1
          refine lv_lookup (off := 38) (tgt := 76) hx hb dX11_meet_38 (by decide) (by decide) (by decide) ?_
          refine lv_iload hx hb dX11_meet_76 (lv_at hl 0 rfl) ?_
          exact W.iret (v := r24) hx hb hr (fun t ht hW => ⟨r24, rfl, (zB_w bn32t_r24 (by decide) (by decide)), ht⟩) (fun q hq => by cases hq) dX11_meet_78
        refine lv_lookup (off := 41) (tgt := 79) hx hb dX11_meet_38 (by decide) ((lv_osw c38_0 (by decide)).trans ((lv_osw c38_1 (by decide)).trans rfl)) (by decide) ?_
        refine lv_iconst (v := (-1)) hx hb dX11_meet_79 (by decide) ?_
        exact W.iret (v := (-1)) hx hb hr (fun t ht hW => ⟨(-1), rfl, (zB_w (show zB (-1) (-1) (-1) from ⟨by decide, by decide⟩) (by decide) (by decide)), ht⟩) (fun q hq => by cases hq) dX11_meet_80
      · have be32f_r24 : zB r24 (-1) (-1) := zB_eq c32 hr24 (show zB (-1) (-1) (-1) from ⟨by decide, by decide⟩) (by decide) (by decide)
        refine lv_iconst (v := (-1)) hx hb dX11_meet_35 (by decide) ?_
        exact W.iret (v := (-1)) hx hb hr (fun t ht hW => ⟨(-1), rfl, (zB_w (show zB (-1) (-1) (-1) from ⟨by decide, by decide⟩) (by decide) (by decide)), ht⟩) (fun q hq => by cases hq) dX11_meet_36
set_option maxHeartbeats 4000000 in
set_option maxRecDepth 100000 in
theorem c_X11_bar (l : Launch) (D : va_G) (cI : ClassId) (cB : ClassId) (cL : ClassId) (cZ : ClassId) (cG : ClassId) (SO : Nat) (x0 : Int32) (x1 : Int32) (x2 : Int32) (PL : Nat) (DR : Nat) (TA : Nat) (RE : Nat) (FL : Nat) (RO : Nat) (HU : Nat) (ME : Nat) (TR : Nat) (NI : Nat) (PL_rooms : Int32) (aPL : Nat → Nat) (PL_doors : Int32) (PL_things : Int32) (FO : Nat) (PL_draw : Int32) (PL_drawTold : Int32) (aFL : Nat → Nat) (FL_parting : Int32) (FL_next : Nat → Int32) (b_PL_rooms : zB PL_rooms 0 8) (b_PL_doors : zB PL_doors 0 12) (b_PL_things : zB PL_things 0 6) : Met l yX11_bar wsX11_bar ({ frames := 3, cells := 0, slots := 0, locals := 73 }) (xr D [(cI, .int), (cB, .byte), (cL, .long), (cZ, .boolean), (cG, .array .int)] [(SO, .inr (11, oX11 PL DR TA RE FL RO HU ME TR NI)), (PL, .inr (5, oX5 FO aPL PL_rooms PL_doors PL_things PL_draw PL_drawTold)), (FL, .inr (0, oX0 PL aFL FL_parting)), ((aFL 1), .inl (cI, 8, .inl FL_next))] [.ref SO, .int x0, .int x1, .int x2]) (vp_Si (fun r => zB r (-1) 255)) 0 0 (fun _ => False) := by
  refine Met.ofW (cc := cX11_bar) (maxL := 5) (ret := (some .int)) (by decide) rfl ?_
  intro p e s m args below meth c s₁ B hml hv
  obtain ⟨rfl, hP, hK⟩ := hv
  have hx := B.exec
  have hb := B.bytes
  have hr := B.returns
  have hts := atoms_spec (ws := wsX11_bar) B.pre
  have hown : s.vm.findClass RX11 = some m.cls := findClass_of_methodNamed B.named
  have hlocks := B.notSynchronized
  clear B
  have hl := lv_entry ([.ref SO, .int x0, .int x1, .int x2]) (n := 5) (Nat.le_of_ble_eq_true rfl)
  rw [lg_entry_eq]
  generalize (lg_sl ([.ref SO, .int x0, .int x1, .int x2]) ++ List.replicate (5 - (lg_sl ([.ref SO, .int x0, .int x1, .int x2])).length) Slot.unset).toArray = ls at hl ⊢
  replace hl : lv_has ls 5 [(0, .ref SO), (1, .int x0), (2, .int x1), (3, .int x2)] := hl
  refine lv_aload_n hx hb dX11_bar_0 rfl (lv_at hl 0 rfl) ?_
  refine lv_iload_n hx hb dX11_bar_1 rfl (lv_at hl 1 rfl) ?_
  have hPc := hP.sub (ws' := [(SO, .inr (11, oX11 PL DR TA RE FL RO HU ME TR NI)), (PL, .inr (5, oX5 FO aPL PL_rooms PL_doors PL_things PL_draw PL_drawTold))]) [0, 1] rfl
  refine vp_callSi (va_runV (As := [.int x0]) (rest := []) ⟨hx, hb, hml, hown, hts⟩ (c_X11_isRoom l D cI cB cL cZ cG SO x0 PL DR TA RE FL RO HU ME TR NI PL_rooms aPL PL_doors PL_things FO PL_draw PL_drawTold b_PL_rooms b_PL_doors b_PL_things) (cwV 1 hts gX11_bar_X11_isRoom rfl rfl rfl (by decide +kernel) ⟨Nat.le_of_ble_eq_true rfl, Nat.le_of_ble_eq_true rfl⟩) ⟨xr_blind, va_recv hK hP (ci := 11) (q0 := 0) rfl rfl, fun U hU hW => xr_mk hU hW hPc hK⟩ rfl rfl hl.1 rfl (lv_room (Nat.le_of_ble_eq_true rfl)) dX11_bar_2 ⟨Nat.le_of_ble_eq_true rfl, Nat.le_of_ble_eq_true rfl⟩).run (fun r2 hr2 => ?_)
  clear hPc
  rcases hr2 with rfl | ⟨rfl, hr2_1_0⟩
  · refine lv_if_eq (tgt := 16) hx hb dX11_bar_5 (by decide) (fun _ => ?_) (fun c5 => absurd (by decide) c5)
    refine lv_iconst (v := (-1)) hx hb dX11_bar_16 (by decide) ?_
    exact W.iret (v := (-1)) hx hb hr (fun t ht hW => ⟨(-1), rfl, (zB_w (show zB (-1) (-1) (-1) from ⟨by decide, by decide⟩) (by decide) (by decide)), ht⟩) (fun q hq => by cases hq) dX11_bar_17
  · refine lv_if_eq (tgt := 16) hx hb dX11_bar_5 (by decide) (fun c5 => absurd c5 (by decide)) (fun _ => ?_)
    refine lv_aload_n hx hb dX11_bar_8 rfl (lv_at hl 0 rfl) ?_
    refine lv_iload_n hx hb dX11_bar_9 rfl (lv_at hl 2 rfl) ?_
    have hPc := hP.sub (ws' := [(SO, .inr (11, oX11 PL DR TA RE FL RO HU ME TR NI)), (PL, .inr (5, oX5 FO aPL PL_rooms PL_doors PL_things PL_draw PL_drawTold))]) [0, 1] rfl
    refine vp_callSi (va_runV (As := [.int x1]) (rest := []) ⟨hx, hb, hml, hown, hts⟩ (c_X11_isRoom l D cI cB cL cZ cG SO x1 PL DR TA RE FL RO HU ME TR NI PL_rooms aPL PL_doors PL_things FO PL_draw PL_drawTold b_PL_rooms b_PL_doors b_PL_things) (cwV 1 hts gX11_bar_X11_isRoom rfl rfl rfl (by decide +kernel) ⟨Nat.le_of_ble_eq_true rfl, Nat.le_of_ble_eq_true rfl⟩) ⟨xr_blind, va_recv hK hP (ci := 11) (q0 := 0) rfl rfl, fun U hU hW => xr_mk hU hW hPc hK⟩ rfl rfl hl.1 rfl (lv_room (Nat.le_of_ble_eq_true rfl)) dX11_bar_10 ⟨Nat.le_of_ble_eq_true rfl, Nat.le_of_ble_eq_true rfl⟩).run (fun r10 hr10 => ?_)
    clear hPc
    rcases hr10 with rfl | ⟨rfl, hr10_1_0⟩
    · refine lv_if_ne (tgt := 18) hx hb dX11_bar_13 (by decide) (fun c13 => absurd (by decide) c13) (fun _ => ?_)
      refine lv_iconst (v := (-1)) hx hb dX11_bar_16 (by decide) ?_
      exact W.iret (v := (-1)) hx hb hr (fun t ht hW => ⟨(-1), rfl, (zB_w (show zB (-1) (-1) (-1) from ⟨by decide, by decide⟩) (by decide) (by decide)), ht⟩) (fun q hq => by cases hq) dX11_bar_17
    · refine lv_if_ne (tgt := 18) hx hb dX11_bar_13 (by decide) (fun _ => ?_) (fun c13 => absurd c13 (by decide))
      refine lv_aload_n hx hb dX11_bar_18 rfl (lv_at hl 0 rfl) ?_
      refine va_get (D := D) (ci := 11) (v := .ref FL) (C := RX11) (T := TX11) (N := 10) hx hb hts iw_X11_bar_X11 hown hK hP 0 rfl rfl 4 (by decide) (hts (.fieldLink RX11 40 "SoldHouse" "floor" "LSoldHouse$Floor;") (List.mem_of_getElem? (i := 1) rfl)) (fun _ h9 => h9) rfl dX11_bar_19 ?_
      refine lv_iload_n hx hb dX11_bar_22 rfl (lv_at hl 1 rfl) ?_
      refine lv_iload_n hx hb dX11_bar_23 rfl (lv_at hl 2 rfl) ?_
      have hPc := hP.sub (ws' := [(FL, .inr (0, oX0 PL aFL FL_parting)), (PL, .inr (5, oX5 FO aPL PL_rooms PL_doors PL_things PL_draw PL_drawTold)), ((aFL 1), .inl (cI, 8, .inl FL_next))]) [2, 1, 3] rfl
      refine vp_callSi (va_runV (As := [.int x0, .int x1]) (rest := []) ⟨hx, hb, hml, hown, hts⟩ (c_X0_barringRooms l D cI cB cL cZ cG FL x0 x1 PL aFL FL_parting PL_rooms aPL PL_doors PL_things FO PL_draw PL_drawTold FL_next hr2_1_0 hr10_1_0 b_PL_rooms b_PL_doors b_PL_things) (cwV 2 hts gX11_bar_X0_barringRooms rfl rfl rfl (by decide +kernel) ⟨Nat.le_of_ble_eq_true rfl, Nat.le_of_ble_eq_true rfl⟩) ⟨xr_blind, va_recv hK hP (ci := 0) (q0 := 2) rfl rfl, fun U hU hW => xr_mk hU hW hPc hK⟩ rfl rfl hl.1 rfl (lv_room (Nat.le_of_ble_eq_true rfl)) dX11_bar_24 ⟨Nat.le_of_ble_eq_true rfl, Nat.le_of_ble_eq_true rfl⟩).run (fun r24 hr24 => ?_)
      clear hPc
      refine lv_istore (lv' := [(4, .int r24), (0, .ref SO), (1, .int x0), (2, .int x1), (3, .int x2)]) hx hb dX11_bar_27 hl (by decide) rfl (fun ls hl => ?_)
      refine lv_iload hx hb dX11_bar_29 (lv_at hl 0 rfl) ?_
      refine lv_iconst (v := (-1)) hx hb dX11_bar_31 (by decide) ?_
      refine lv_icmp_ne (tgt := 37) hx hb dX11_bar_32 (by decide) (fun c32 => ?_) (fun c32 => ?_)
      · have bn32t_r24 : zB r24 0 255 := zB_neL c32 hr24 (show zB (-1) (-1) (-1) from ⟨by decide, by decide⟩) (by decide)
        refine lv_iload_n hx hb dX11_bar_37 rfl (lv_at hl 4 rfl) ?_
        by_cases c38_0 : x2 = 0
        · obtain rfl := c38_0
          refine lv_lookup (off := 26) (tgt := 64) hx hb dX11_bar_38 (by decide) (by decide) (by decide) ?_
          refine lv_iload hx hb dX11_bar_64 (lv_at hl 0 rfl) ?_
          have hPc := hP.sub (ws' := []) [] rfl
          refine vp_callSi (va_runS (As := [.int r24]) (rest := []) ⟨hx, hb, hml, hown, hts⟩ (c_J6_bitCount_0f7a4 l D cI cB cL cZ cG r24) (va_cwS 1 hts gX11_bar_J6_bitCount_0f7a4 rfl rfl rfl (by decide +kernel) ⟨Nat.le_of_ble_eq_true rfl, Nat.le_of_ble_eq_true rfl⟩) ⟨xr_blind, fun U hU hW => xr_mk hU hW hPc hK⟩ rfl rfl hl.1 rfl (lv_room (Nat.le_of_ble_eq_true rfl)) dX11_bar_66 ⟨Nat.le_of_ble_eq_true rfl, Nat.le_of_ble_eq_true rfl⟩).run (fun r66 hr66 => ?_)
          clear hPc
          exact W.iret (v := r66) hx hb hr (fun t ht hW => ⟨r66, rfl, (zB_w hr66 (by decide) (by decide)), ht⟩) (fun q hq => by cases hq) dX11_bar_69
        by_cases c38_1 : x2 = 1
        · obtain rfl := c38_1
          refine lv_lookup (off := 32) (tgt := 70) hx hb dX11_bar_38 (by decide) (by decide) (by decide) ?_
          refine lv_iload hx hb dX11_bar_70 (lv_at hl 0 rfl) ?_
          exact W.iret (v := r24) hx hb hr (fun t ht hW => ⟨r24, rfl, (zB_w bn32t_r24 (by decide) (by decide)), ht⟩) (fun q hq => by cases hq) dX11_bar_72
        refine lv_lookup (off := 35) (tgt := 73) hx hb dX11_bar_38 (by decide) ((lv_osw c38_0 (by decide)).trans ((lv_osw c38_1 (by decide)).trans rfl)) (by decide) ?_
        refine lv_iconst (v := (-1)) hx hb dX11_bar_73 (by decide) ?_
        exact W.iret (v := (-1)) hx hb hr (fun t ht hW => ⟨(-1), rfl, (zB_w (show zB (-1) (-1) (-1) from ⟨by decide, by decide⟩) (by decide) (by decide)), ht⟩) (fun q hq => by cases hq) dX11_bar_74
      · have be32f_r24 : zB r24 (-1) (-1) := zB_eq c32 hr24 (show zB (-1) (-1) (-1) from ⟨by decide, by decide⟩) (by decide) (by decide)
        refine lv_iconst (v := (-1)) hx hb dX11_bar_35 (by decide) ?_
        exact W.iret (v := (-1)) hx hb hr (fun t ht hW => ⟨(-1), rfl, (zB_w (show zB (-1) (-1) (-1) from ⟨by decide, by decide⟩) (by decide) (by decide)), ht⟩) (fun q hq => by cases hq) dX11_bar_36
set_option maxHeartbeats 4000000 in
set_option maxRecDepth 100000 in
theorem c_X11_tour (l : Launch) (D : va_G) (cI : ClassId) (cB : ClassId) (cL : ClassId) (cZ : ClassId) (cG : ClassId) (SO : Nat) (x0 : Int32) (x1 : Int32) (PL : Nat) (DR : Nat) (TA : Nat) (RE : Nat) (FL : Nat) (RO : Nat) (HU : Nat) (ME : Nat) (TR : Nat) (NI : Nat) (aRO : Nat → Nat) (RO_lying : Int32) (PL_rooms : Int32) (aPL : Nat → Nat) (PL_doors : Int32) (PL_things : Int32) (FO : Nat) (PL_draw : Int32) (PL_drawTold : Int32) (aFL : Nat → Nat) (FL_parting : Int32) (FL_next : Nat → Int32) (FL_far : Nat → Int32) (RO_rest : Nat → Int32) (RO_lie : Nat → Int32) (sz : Nat) (b_RO_lying : zB RO_lying 0 8) (b_PL_rooms : zB PL_rooms 0 8) (b_PL_doors : zB PL_doors 0 12) (b_PL_things : zB PL_things 0 6) (s_FL_far_0 : zA FL_far 0 64 (-1) 7) : Met l yX11_tour wsX11_tour ({ frames := 5, cells := 0, slots := 0, locals := 118 }) (xp D [(cI, .int), (cB, .byte), (cL, .long), (cZ, .boolean), (cG, .array .int)] [(SO, .inr (11, oX11 PL DR TA RE FL RO HU ME TR NI)), (RO, .inr (7, oX7 FL aRO RO_lying)), (PL, .inr (5, oX5 FO aPL PL_rooms PL_doors PL_things PL_draw PL_drawTold)), (FL, .inr (0, oX0 PL aFL FL_parting)), ((aFL 1), .inl (cI, 8, .inl FL_next)), ((aFL 2), .inl (cI, 64, .inl FL_far)), ((aRO 4), .inl (cI, 2048, .inl RO_rest)), ((aRO 1), .inl (cI, 8, .inl RO_lie))] sz [] [.ref SO, .int x0, .int x1]) (va_Qi (fun (r : Int32) (_ : Unit) => True) (fun (_ : Unit) (t : State) => ∃ (nRO_lying : Int32), ∃ (nROrest : Nat → Int32), ∃ (nROlie : Nat → Int32), zB nRO_lying 0 8 ∧ xB D (va_A [(SO, .inr (11, oX11 PL DR TA RE FL RO HU ME TR NI)), (RO, .inr (7, oX7 FL aRO RO_lying)), (PL, .inr (5, oX5 FO aPL PL_rooms PL_doors PL_things PL_draw PL_drawTold)), (FL, .inr (0, oX0 PL aFL FL_parting)), ((aFL 1), .inl (cI, 8, .inl FL_next)), ((aFL 2), .inl (cI, 64, .inl FL_far)), ((aRO 4), .inl (cI, 2048, .inl RO_rest)), ((aRO 1), .inl (cI, 8, .inl RO_lie))] sz) [(SO, .inr (11, oX11 PL DR TA RE FL RO HU ME TR NI)), (RO, .inr (7, oX7 FL aRO nRO_lying)), (PL, .inr (5, oX5 FO aPL PL_rooms PL_doors PL_things PL_draw PL_drawTold)), (FL, .inr (0, oX0 PL aFL FL_parting)), ((aFL 1), .inl (cI, 8, .inl FL_next)), ((aFL 2), .inl (cI, 64, .inl FL_far)), ((aRO 4), .inl (cI, 2048, .inl nROrest)), ((aRO 1), .inl (cI, 8, .inl nROlie))] t) (va_A [(SO, .inr (11, oX11 PL DR TA RE FL RO HU ME TR NI)), (RO, .inr (7, oX7 FL aRO RO_lying)), (PL, .inr (5, oX5 FO aPL PL_rooms PL_doors PL_things PL_draw PL_drawTold)), (FL, .inr (0, oX0 PL aFL FL_parting)), ((aFL 1), .inl (cI, 8, .inl FL_next)), ((aFL 2), .inl (cI, 64, .inl FL_far)), ((aRO 4), .inl (cI, 2048, .inl RO_rest)), ((aRO 1), .inl (cI, 8, .inl RO_lie))] sz)) 0 0 (va_A [(SO, .inr (11, oX11 PL DR TA RE FL RO HU ME TR NI)), (RO, .inr (7, oX7 FL aRO RO_lying)), (PL, .inr (5, oX5 FO aPL PL_rooms PL_doors PL_things PL_draw PL_drawTold)), (FL, .inr (0, oX0 PL aFL FL_parting)), ((aFL 1), .inl (cI, 8, .inl FL_next)), ((aFL 2), .inl (cI, 64, .inl FL_far)), ((aRO 4), .inl (cI, 2048, .inl RO_rest)), ((aRO 1), .inl (cI, 8, .inl RO_lie))] sz) := by
  refine Met.ofW (cc := cX11_tour) (maxL := 3) (ret := (some .int)) (by decide) rfl ?_
  intro p e s m args below meth c s₁ B hml hv
  obtain ⟨rfl, hsz, hP, hK, hD0, hNw⟩ := hv
  have hx := B.exec
  have hb := B.bytes
  have hr := B.returns
  have hts := atoms_spec (ws := wsX11_tour) B.pre
  have hown : s.vm.findClass RX11 = some m.cls := findClass_of_methodNamed B.named
  have hlocks := B.notSynchronized
  clear B
  subst hsz
  have hD := hD0.self (sz := s.heap.size)
  clear hD0 hNw
  generalize hAe : va_A [(SO, .inr (11, oX11 PL DR TA RE FL RO HU ME TR NI)), (RO, .inr (7, oX7 FL aRO RO_lying)), (PL, .inr (5, oX5 FO aPL PL_rooms PL_doors PL_things PL_draw PL_drawTold)), (FL, .inr (0, oX0 PL aFL FL_parting)), ((aFL 1), .inl (cI, 8, .inl FL_next)), ((aFL 2), .inl (cI, 64, .inl FL_far)), ((aRO 4), .inl (cI, 2048, .inl RO_rest)), ((aRO 1), .inl (cI, 8, .inl RO_lie))] s.heap.size = A at hD ⊢
  have hA : ∀ q : Nat, s.heap.size ≤ q → A q := fun q h => by rw [← hAe]; exact Or.inr h
  have hS : va_S A s.heap s.heap [] := va_S.rf
  clear hAe
  obtain ⟨H, hH⟩ : ∃ H : Heap, H = s.heap := ⟨_, rfl⟩
  obtain ⟨locs, hlocs⟩ : ∃ L : List Loc, L = [] := ⟨_, rfl⟩
  replace hP : va_P D classes [(SO, .inr (11, oX11 PL DR TA RE FL RO HU ME TR NI)), (RO, .inr (7, oX7 FL aRO RO_lying)), (PL, .inr (5, oX5 FO aPL PL_rooms PL_doors PL_things PL_draw PL_drawTold)), (FL, .inr (0, oX0 PL aFL FL_parting)), ((aFL 1), .inl (cI, 8, .inl FL_next)), ((aFL 2), .inl (cI, 64, .inl FL_far)), ((aRO 4), .inl (cI, 2048, .inl RO_rest)), ((aRO 1), .inl (cI, 8, .inl RO_lie))] H := by rw [hH]; exact hP
  replace hS : va_S A s.heap H locs := by rw [hH, hlocs]; exact hS
  rw [← hH, ← hlocs]
  clear hlocs hH
  have hl := lv_entry ([.ref SO, .int x0, .int x1]) (n := 3) (Nat.le_of_ble_eq_true rfl)
  rw [lg_entry_eq]
  generalize (lg_sl ([.ref SO, .int x0, .int x1]) ++ List.replicate (3 - (lg_sl ([.ref SO, .int x0, .int x1])).length) Slot.unset).toArray = ls at hl ⊢
  replace hl : lv_has ls 3 [(0, .ref SO), (1, .int x0), (2, .int x1)] := hl
  refine lv_aload_n hx hb dX11_tour_0 rfl (lv_at hl 0 rfl) ?_
  refine va_get (D := D) (ci := 11) (v := .ref RO) (C := RX11) (T := TX11) (N := 10) hx hb hts iw_X11_tour_X11 hown hK hP 0 rfl rfl 5 (by decide) (hts (.fieldLink RX11 49 "SoldHouse" "routes" "LSoldHouse$Routes;") (List.mem_of_getElem? (i := 1) rfl)) (fun _ h9 => h9) rfl dX11_tour_1 ?_
  refine lv_iconst (v := 0) hx hb dX11_tour_4 (by decide) ?_
  refine va_put (D := D) (ci := 7) (v := .int 0) (ty := tyX7 2) (C := RX7) (T := TX7) (N := 5) hx hb hts iw_X11_tour_X7 tyX7 tyX7_ok nmX7 hown hK hP hD hS 1 rfl rfl 2 (by decide) (hts (.fieldLink RX11 187 "SoldHouse$Routes" "lying" "I") (List.mem_of_getElem? (i := 2) rfl)) (fun _ h9 => h9) rfl (by decide +kernel) rfl rfl (Nat.le_of_ble_eq_true rfl) dX11_tour_5 (fun H locs hP hD hS => ?_)
  replace hP : va_P D classes [(SO, .inr (11, oX11 PL DR TA RE FL RO HU ME TR NI)), (RO, .inr (7, oX7 FL aRO 0)), (PL, .inr (5, oX5 FO aPL PL_rooms PL_doors PL_things PL_draw PL_drawTold)), (FL, .inr (0, oX0 PL aFL FL_parting)), ((aFL 1), .inl (cI, 8, .inl FL_next)), ((aFL 2), .inl (cI, 64, .inl FL_far)), ((aRO 4), .inl (cI, 2048, .inl RO_rest)), ((aRO 1), .inl (cI, 8, .inl RO_lie))] H := hP
  replace hD : va_D A [(SO, .inr (11, oX11 PL DR TA RE FL RO HU ME TR NI)), (RO, .inr (7, oX7 FL aRO 0)), (PL, .inr (5, oX5 FO aPL PL_rooms PL_doors PL_things PL_draw PL_drawTold)), (FL, .inr (0, oX0 PL aFL FL_parting)), ((aFL 1), .inl (cI, 8, .inl FL_next)), ((aFL 2), .inl (cI, 64, .inl FL_far)), ((aRO 4), .inl (cI, 2048, .inl RO_rest)), ((aRO 1), .inl (cI, 8, .inl RO_lie))] := hD
  refine lv_aload_n hx hb dX11_tour_8 rfl (lv_at hl 0 rfl) ?_
  refine lv_iload_n hx hb dX11_tour_9 rfl (lv_at hl 1 rfl) ?_
  have hPc := hP.sub (ws' := [(SO, .inr (11, oX11 PL DR TA RE FL RO HU ME TR NI)), (PL, .inr (5, oX5 FO aPL PL_rooms PL_doors PL_things PL_draw PL_drawTold))]) [0, 2] rfl
  refine vp_callSi (va_runV (As := [.int x0]) (rest := []) ⟨hx, hb, hml, hown, hts⟩ (c_X11_isRoom l D cI cB cL cZ cG SO x0 PL DR TA RE FL RO HU ME TR NI PL_rooms aPL PL_doors PL_things FO PL_draw PL_drawTold b_PL_rooms b_PL_doors b_PL_things) (cwV 1 hts gX11_tour_X11_isRoom rfl rfl rfl (by decide +kernel) ⟨Nat.le_of_ble_eq_true rfl, Nat.le_of_ble_eq_true rfl⟩) ⟨xr_blind, va_recv hK hP (ci := 11) (q0 := 0) rfl rfl, fun U hU hW => xr_mk hU hW hPc hK⟩ rfl rfl hl.1 rfl (lv_room (Nat.le_of_ble_eq_true rfl)) dX11_tour_10 ⟨Nat.le_of_ble_eq_true rfl, Nat.le_of_ble_eq_true rfl⟩).run (fun r10 hr10 => ?_)
  clear hPc
  rcases hr10 with rfl | ⟨rfl, hr10_1_0⟩
  · refine lv_if_eq (tgt := 24) hx hb dX11_tour_13 (by decide) (fun _ => ?_) (fun c13 => absurd (by decide) c13)
    refine lv_iconst (v := (-1)) hx hb dX11_tour_24 (by decide) ?_
    exact W.iret (v := (-1)) hx hb hr (fun t ht hW => ⟨⟨(-1), (), rfl, trivial, ⟨0, RO_rest, RO_lie, (zB_w (show zB 0 0 0 from ⟨by decide, by decide⟩) (by decide) (by decide)), by rw [ht]; exact hP, hD⟩⟩, hS.F ht⟩) hS.2.2 dX11_tour_25
  · refine lv_if_eq (tgt := 24) hx hb dX11_tour_13 (by decide) (fun c13 => absurd c13 (by decide)) (fun _ => ?_)
    refine lv_aload_n hx hb dX11_tour_16 rfl (lv_at hl 0 rfl) ?_
    refine lv_iload_n hx hb dX11_tour_17 rfl (lv_at hl 2 rfl) ?_
    have hPc := hP.sub (ws' := [(SO, .inr (11, oX11 PL DR TA RE FL RO HU ME TR NI)), (PL, .inr (5, oX5 FO aPL PL_rooms PL_doors PL_things PL_draw PL_drawTold))]) [0, 2] rfl
    refine vp_callSi (va_runV (As := [.int x1]) (rest := []) ⟨hx, hb, hml, hown, hts⟩ (c_X11_areRooms l D cI cB cL cZ cG SO x1 PL DR TA RE FL RO HU ME TR NI PL_rooms aPL PL_doors PL_things FO PL_draw PL_drawTold b_PL_rooms b_PL_doors b_PL_things) (cwV 1 hts gX11_tour_X11_areRooms rfl rfl rfl (by decide +kernel) ⟨Nat.le_of_ble_eq_true rfl, Nat.le_of_ble_eq_true rfl⟩) ⟨xr_blind, va_recv hK hP (ci := 11) (q0 := 0) rfl rfl, fun U hU hW => xr_mk hU hW hPc hK⟩ rfl rfl hl.1 rfl (lv_room (Nat.le_of_ble_eq_true rfl)) dX11_tour_18 ⟨Nat.le_of_ble_eq_true rfl, Nat.le_of_ble_eq_true rfl⟩).run (fun r18 hr18 => ?_)
    clear hPc
    rcases hr18 with rfl | ⟨rfl, hr18_1_0⟩
    · refine lv_if_ne (tgt := 26) hx hb dX11_tour_21 (by decide) (fun c21 => absurd (by decide) c21) (fun _ => ?_)
      refine lv_iconst (v := (-1)) hx hb dX11_tour_24 (by decide) ?_
      exact W.iret (v := (-1)) hx hb hr (fun t ht hW => ⟨⟨(-1), (), rfl, trivial, ⟨0, RO_rest, RO_lie, (zB_w (show zB 0 0 0 from ⟨by decide, by decide⟩) (by decide) (by decide)), by rw [ht]; exact hP, hD⟩⟩, hS.F ht⟩) hS.2.2 dX11_tour_25
    · refine lv_if_ne (tgt := 26) hx hb dX11_tour_21 (by decide) (fun _ => ?_) (fun c21 => absurd c21 (by decide))
      refine lv_aload_n hx hb dX11_tour_26 rfl (lv_at hl 0 rfl) ?_
      refine va_get (D := D) (ci := 11) (v := .ref RO) (C := RX11) (T := TX11) (N := 10) hx hb hts iw_X11_tour_X11 hown hK hP 0 rfl rfl 5 (by decide) (hts (.fieldLink RX11 49 "SoldHouse" "routes" "LSoldHouse$Routes;") (List.mem_of_getElem? (i := 1) rfl)) (fun _ h9 => h9) rfl dX11_tour_27 ?_
      refine lv_iload_n hx hb dX11_tour_30 rfl (lv_at hl 1 rfl) ?_
      refine lv_iload_n hx hb dX11_tour_31 rfl (lv_at hl 2 rfl) ?_
      have hPc := hP.sub (ws' := [(RO, .inr (7, oX7 FL aRO 0)), (FL, .inr (0, oX0 PL aFL FL_parting)), (PL, .inr (5, oX5 FO aPL PL_rooms PL_doors PL_things PL_draw PL_drawTold)), ((aFL 1), .inl (cI, 8, .inl FL_next)), ((aFL 2), .inl (cI, 64, .inl FL_far)), ((aRO 4), .inl (cI, 2048, .inl RO_rest)), ((aRO 1), .inl (cI, 8, .inl RO_lie))]) [1, 3, 2, 4, 5, 6, 7] rfl
      have hDc := hD.sub (ws' := [(RO, .inr (7, oX7 FL aRO 0)), (FL, .inr (0, oX0 PL aFL FL_parting)), (PL, .inr (5, oX5 FO aPL PL_rooms PL_doors PL_things PL_draw PL_drawTold)), ((aFL 1), .inl (cI, 8, .inl FL_next)), ((aFL 2), .inl (cI, 64, .inl FL_far)), ((aRO 4), .inl (cI, 2048, .inl RO_rest)), ((aRO 1), .inl (cI, 8, .inl RO_lie))]) [1, 3, 2, 4, 5, 6, 7] (by decide) rfl
      have hFc := va_free (wc := [(RO, .inr (7, oX7 FL aRO 0)), (FL, .inr (0, oX0 PL aFL FL_parting)), (PL, .inr (5, oX5 FO aPL PL_rooms PL_doors PL_things PL_draw PL_drawTold)), ((aFL 1), .inl (cI, 8, .inl FL_next)), ((aFL 2), .inl (cI, 64, .inl FL_far)), ((aRO 4), .inl (cI, 2048, .inl RO_rest)), ((aRO 1), .inl (cI, 8, .inl RO_lie))]) hD hS hA [1, 3, 2, 4, 5, 6, 7] rfl
      refine va_calli (va_runV (As := [.int x0, .int x1]) (rest := []) ⟨hx, hb, hml, hown, hts⟩ (c_X7_layTour l D cI cB cL cZ cG RO x0 x1 FL aRO 0 PL aFL FL_parting PL_rooms aPL PL_doors PL_things FO PL_draw PL_drawTold FL_next FL_far RO_rest RO_lie H.size hr10_1_0 hr18_1_0 (zB_w (show zB 0 0 0 from ⟨by decide, by decide⟩) (by decide) (by decide)) b_PL_rooms b_PL_doors b_PL_things s_FL_far_0) (cwV 2 hts gX11_tour_X7_layTour rfl rfl rfl (by decide +kernel) ⟨Nat.le_of_ble_eq_true rfl, Nat.le_of_ble_eq_true rfl⟩) ⟨xp_blind, va_recv hK hP (ci := 7) (q0 := 1) rfl rfl, fun U hU hW => xp_mk hU hW hPc hK hDc xNw_nil⟩ rfl rfl hl.1 rfl (lv_room (Nat.le_of_ble_eq_true rfl)) dX11_tour_32 ⟨Nat.le_of_ble_eq_true rfl, Nat.le_of_ble_eq_true rfl⟩) hS (fun q _ h => hFc q h) hFc (fun r32 u9 t9 H1 locs ht9 hvm9 hr32 hB9 hz9 hk9 hS => ?_)
      obtain ⟨o32_nRO_lying, o32_nROrest, o32_nROlie, bo32_nRO_lying, hP1, hD1⟩ := hB9
      rw [ht9] at hP1
      obtain ⟨hP, hD⟩ := va_join (wr := [(SO, .inr (11, oX11 PL DR TA RE FL RO HU ME TR NI))]) (w1 := [(RO, .inr (7, oX7 FL aRO o32_nRO_lying)), (FL, .inr (0, oX0 PL aFL FL_parting)), (PL, .inr (5, oX5 FO aPL PL_rooms PL_doors PL_things PL_draw PL_drawTold)), ((aFL 1), .inl (cI, 8, .inl FL_next)), ((aFL 2), .inl (cI, 64, .inl FL_far)), ((aRO 4), .inl (cI, 2048, .inl o32_nROrest)), ((aRO 1), .inl (cI, 8, .inl o32_nROlie))]) hP hD [1, 3, 2, 4, 5, 6, 7] [0] rfl rfl (by decide) (by decide) hk9 hFc hP1 hD1
      clear hz9 hPc hDc hP1 hD1 hk9 hFc ht9 hvm9 u9 t9
      generalize H1 = H at hP hS ⊢
      replace hP : va_P D classes [(SO, .inr (11, oX11 PL DR TA RE FL RO HU ME TR NI)), (RO, .inr (7, oX7 FL aRO o32_nRO_lying)), (PL, .inr (5, oX5 FO aPL PL_rooms PL_doors PL_things PL_draw PL_drawTold)), (FL, .inr (0, oX0 PL aFL FL_parting)), ((aFL 1), .inl (cI, 8, .inl FL_next)), ((aFL 2), .inl (cI, 64, .inl FL_far)), ((aRO 4), .inl (cI, 2048, .inl o32_nROrest)), ((aRO 1), .inl (cI, 8, .inl o32_nROlie))] H := hP.sub [0, 1, 3, 2, 4, 5, 6, 7] rfl
      replace hD : va_D A [(SO, .inr (11, oX11 PL DR TA RE FL RO HU ME TR NI)), (RO, .inr (7, oX7 FL aRO o32_nRO_lying)), (PL, .inr (5, oX5 FO aPL PL_rooms PL_doors PL_things PL_draw PL_drawTold)), (FL, .inr (0, oX0 PL aFL FL_parting)), ((aFL 1), .inl (cI, 8, .inl FL_next)), ((aFL 2), .inl (cI, 64, .inl FL_far)), ((aRO 4), .inl (cI, 2048, .inl o32_nROrest)), ((aRO 1), .inl (cI, 8, .inl o32_nROlie))] := hD.sub [0, 1, 3, 2, 4, 5, 6, 7] (by decide) rfl
      clear hr32
      exact W.iret (v := r32) hx hb hr (fun t ht hW => ⟨⟨r32, (), rfl, trivial, ⟨o32_nRO_lying, o32_nROrest, o32_nROlie, bo32_nRO_lying, by rw [ht]; exact hP, hD⟩⟩, hS.F ht⟩) hS.2.2 dX11_tour_35
set_option maxHeartbeats 4000000 in
set_option maxRecDepth 100000 in
theorem c_X11_centre (l : Launch) (D : va_G) (cI : ClassId) (cB : ClassId) (cL : ClassId) (cZ : ClassId) (cG : ClassId) (SO : Nat) (PL : Nat) (DR : Nat) (TA : Nat) (RE : Nat) (FL : Nat) (RO : Nat) (HU : Nat) (ME : Nat) (TR : Nat) (NI : Nat) (aFL : Nat → Nat) (FL_parting : Int32) (PL_rooms : Int32) (aPL : Nat → Nat) (PL_doors : Int32) (PL_things : Int32) (FO : Nat) (PL_draw : Int32) (PL_drawTold : Int32) (FL_far : Nat → Int32) (b_PL_rooms : zB PL_rooms 0 8) (b_PL_doors : zB PL_doors 0 12) (b_PL_things : zB PL_things 0 6) (s_FL_far_0 : zA FL_far 0 64 (-1) 7) : Met l yX11_centre wsX11_centre ({ frames := 3, cells := 0, slots := 0, locals := 69 }) (xr D [(cI, .int), (cB, .byte), (cL, .long), (cZ, .boolean), (cG, .array .int)] [(SO, .inr (11, oX11 PL DR TA RE FL RO HU ME TR NI)), (FL, .inr (0, oX0 PL aFL FL_parting)), (PL, .inr (5, oX5 FO aPL PL_rooms PL_doors PL_things PL_draw PL_drawTold)), ((aFL 2), .inl (cI, 64, .inl FL_far))] [.ref SO]) (vp_Si (fun r => zB r (-1) 7)) 0 0 (fun _ => False) := by
  refine Met.ofW (cc := cX11_centre) (maxL := 1) (ret := (some .int)) (by decide) rfl ?_
  intro p e s m args below meth c s₁ B hml hv
  obtain ⟨rfl, hP, hK⟩ := hv
  have hx := B.exec
  have hb := B.bytes
  have hr := B.returns
  have hts := atoms_spec (ws := wsX11_centre) B.pre
  have hown : s.vm.findClass RX11 = some m.cls := findClass_of_methodNamed B.named
  have hlocks := B.notSynchronized
  clear B
  have hl := lv_entry ([.ref SO]) (n := 1) (Nat.le_of_ble_eq_true rfl)
  rw [lg_entry_eq]
  generalize (lg_sl ([.ref SO]) ++ List.replicate (1 - (lg_sl ([.ref SO])).length) Slot.unset).toArray = ls at hl ⊢
  replace hl : lv_has ls 1 [(0, .ref SO)] := hl
  refine lv_aload_n hx hb dX11_centre_0 rfl (lv_at hl 0 rfl) ?_
  refine va_get (D := D) (ci := 11) (v := .ref FL) (C := RX11) (T := TX11) (N := 10) hx hb hts iw_X11_centre_X11 hown hK hP 0 rfl rfl 4 (by decide) (hts (.fieldLink RX11 40 "SoldHouse" "floor" "LSoldHouse$Floor;") (List.mem_of_getElem? (i := 1) rfl)) (fun _ h9 => h9) rfl dX11_centre_1 ?_
  have hPc := hP.sub (ws' := [(FL, .inr (0, oX0 PL aFL FL_parting)), (PL, .inr (5, oX5 FO aPL PL_rooms PL_doors PL_things PL_draw PL_drawTold)), ((aFL 2), .inl (cI, 64, .inl FL_far))]) [1, 2, 3] rfl
  refine vp_callSi (va_runV (As := []) (rest := []) ⟨hx, hb, hml, hown, hts⟩ (c_X0_middleRoom l D cI cB cL cZ cG FL PL aFL FL_parting PL_rooms aPL PL_doors PL_things FO PL_draw PL_drawTold FL_far b_PL_rooms b_PL_doors b_PL_things s_FL_far_0) (cwV 0 hts gX11_centre_X0_middleRoom rfl rfl rfl (by decide +kernel) ⟨Nat.le_of_ble_eq_true rfl, Nat.le_of_ble_eq_true rfl⟩) ⟨xr_blind, va_recv hK hP (ci := 0) (q0 := 1) rfl rfl, fun U hU hW => xr_mk hU hW hPc hK⟩ rfl rfl hl.1 rfl (lv_room (Nat.le_of_ble_eq_true rfl)) dX11_centre_4 ⟨Nat.le_of_ble_eq_true rfl, Nat.le_of_ble_eq_true rfl⟩).run (fun r4 hr4 => ?_)
  clear hPc
  exact W.iret (v := r4) hx hb hr (fun t ht hW => ⟨r4, rfl, hr4, ht⟩) (fun q hq => by cases hq) dX11_centre_7
set_option maxHeartbeats 4000000 in
set_option maxRecDepth 100000 in
theorem c_X11_nooks (l : Launch) (D : va_G) (cI : ClassId) (cB : ClassId) (cL : ClassId) (cZ : ClassId) (cG : ClassId) (SO : Nat) (PL : Nat) (DR : Nat) (TA : Nat) (RE : Nat) (FL : Nat) (RO : Nat) (HU : Nat) (ME : Nat) (TR : Nat) (NI : Nat) (PL_rooms : Int32) (aPL : Nat → Nat) (PL_doors : Int32) (PL_things : Int32) (FO : Nat) (PL_draw : Int32) (PL_drawTold : Int32) (aFL : Nat → Nat) (FL_parting : Int32) (FL_next : Nat → Int32) (b_PL_rooms : zB PL_rooms 0 8) (b_PL_doors : zB PL_doors 0 12) (b_PL_things : zB PL_things 0 6) : Met l yX11_nooks wsX11_nooks ({ frames := 1, cells := 0, slots := 0, locals := 20 }) (xr D [(cI, .int), (cB, .byte), (cL, .long), (cZ, .boolean), (cG, .array .int)] [(SO, .inr (11, oX11 PL DR TA RE FL RO HU ME TR NI)), (PL, .inr (5, oX5 FO aPL PL_rooms PL_doors PL_things PL_draw PL_drawTold)), (FL, .inr (0, oX0 PL aFL FL_parting)), ((aFL 1), .inl (cI, 8, .inl FL_next))] [.ref SO]) (vp_Si (fun r => zB r 0 255)) 0 0 (fun _ => False) := by
  refine Met.ofW (cc := cX11_nooks) (maxL := 3) (ret := (some .int)) (by decide) rfl ?_
  intro p e s m args below meth c s₁ B hml hv
  obtain ⟨rfl, hP, hK⟩ := hv
  have hx := B.exec
  have hb := B.bytes
  have hr := B.returns
  have hts := atoms_spec (ws := wsX11_nooks) B.pre
  have hown : s.vm.findClass RX11 = some m.cls := findClass_of_methodNamed B.named
  have hlocks := B.notSynchronized
  clear B
  have hl := lv_entry ([.ref SO]) (n := 3) (Nat.le_of_ble_eq_true rfl)
  rw [lg_entry_eq]
  generalize (lg_sl ([.ref SO]) ++ List.replicate (3 - (lg_sl ([.ref SO])).length) Slot.unset).toArray = ls at hl ⊢
  replace hl : lv_has ls 3 [(0, .ref SO)] := hl
  refine zz_abs (R := ({ frames := 1, cells := 0, slots := 0, locals := 20 } : Room)) (fun Q up => ?_)
  refine lv_iconst (v := 0) hx hb dX11_nooks_0 (by decide) ?_
  refine lv_istore_n (lv' := [(1, .int 0), (0, .ref SO)]) hx hb dX11_nooks_1 rfl hl (by decide) rfl (fun ls hl => ?_)
  refine lv_iconst (v := 0) hx hb dX11_nooks_2 (by decide) ?_
  have j4 : ∀ (n4 : Nat) (ls : Array Slot) (v4_2 : Int32) (v4_1 : Int32), zB v4_2 0 8 → zB v4_1 0 255 → (8 + 1 - v4_2.toInt) ≤ (n4 : Int) → lv_has ls 3 [(2, .int v4_2), (1, .int v4_1), (0, .ref SO)] → W p l e ({ frames := 1, cells := 0, slots := 0, locals := 20 } : Room) s m ([.ref SO] : List Value).toArray below meth c s.heap [] 0 0 Q (F0 m 4 ls []) := by
    intro n4
    induction n4 with
    | zero => intro ls v4_2 v4_1 bv4_2_k4 bv4_1_k4 hm4 hl; exact zM_u0 bv4_2_k4 hm4
    | succ n4 ih4 =>
      intro ls v4_2 v4_1 bv4_2_k4 bv4_1_k4 hm4 hl
      refine lv_iload_n hx hb dX11_nooks_4 rfl (lv_at hl 0 rfl) ?_
      refine lv_aload_n hx hb dX11_nooks_5 rfl (lv_at hl 2 rfl) ?_
      refine va_get (D := D) (ci := 11) (v := .ref PL) (C := RX11) (T := TX11) (N := 10) hx hb hts iw_X11_nooks_X11 hown hK hP 0 rfl rfl 0 (by decide) (hts (.fieldLink RX11 10 "SoldHouse" "plan" "LSoldHouse$Plan;") (List.mem_of_getElem? (i := 1) rfl)) (fun _ h9 => h9) rfl dX11_nooks_6 ?_
      refine va_get (D := D) (ci := 5) (v := .int PL_rooms) (C := RX5) (T := TX5) (N := 16) hx hb hts iw_X11_nooks_X5 hown hK hP 1 rfl rfl 0 (by decide) (hts (.fieldLink RX11 101 "SoldHouse$Plan" "rooms" "I") (List.mem_of_getElem? (i := 2) rfl)) (fun _ h9 => h9) rfl dX11_nooks_9 ?_
      refine lv_icmp_ge (tgt := 43) hx hb dX11_nooks_12 (by decide) (fun c12 => ?_) (fun c12 => ?_)
      · refine lv_iload_n hx hb dX11_nooks_43 rfl (lv_at hl 1 rfl) ?_
        exact up _ _ _ (W.iret (v := v4_1) hx hb hr (fun t ht hW => ⟨v4_1, rfl, bv4_1_k4, ht⟩) (fun q hq => by cases hq) dX11_nooks_44)
      · have bx12f_v4_2 : zB v4_2 0 7 := zB_ltu (zf c12) bv4_2_k4 b_PL_rooms (by decide)
        have by12f_PL_rooms : zB PL_rooms 1 8 := zB_ltv (zf c12) bx12f_v4_2 b_PL_rooms (by decide)
        refine lv_aload_n hx hb dX11_nooks_15 rfl (lv_at hl 2 rfl) ?_
        refine va_get (D := D) (ci := 11) (v := .ref FL) (C := RX11) (T := TX11) (N := 10) hx hb hts iw_X11_nooks_X11 hown hK hP 0 rfl rfl 4 (by decide) (hts (.fieldLink RX11 40 "SoldHouse" "floor" "LSoldHouse$Floor;") (List.mem_of_getElem? (i := 3) rfl)) (fun _ h9 => h9) rfl dX11_nooks_16 ?_
        refine va_get (D := D) (ci := 0) (v := .ref (aFL 1)) (C := RX0) (T := TX0) (N := 5) hx hb hts iw_X11_nooks_X0 hown hK hP 2 rfl rfl 1 (by decide) (hts (.fieldLink RX11 118 "SoldHouse$Floor" "next" "[I") (List.mem_of_getElem? (i := 4) rfl)) (fun _ h9 => h9) rfl dX11_nooks_19 ?_
        refine lv_iload_n hx hb dX11_nooks_22 rfl (lv_at hl 0 rfl) ?_
        refine va_iald hx hb hK hP 3 0 rfl rfl (zB_in bx12f_v4_2 (by decide) (by decide)) dX11_nooks_23 ?_
        refine lv_topi (fun y23 _ => ?_)
        have hPc := hP.sub (ws' := []) [] rfl
        refine vp_callSi (va_runS (As := [.int y23]) (rest := []) ⟨hx, hb, hml, hown, hts⟩ (c_J6_bitCount_0f7a4 l D cI cB cL cZ cG y23) (va_cwS 1 hts gX11_nooks_J6_bitCount_0f7a4 rfl rfl rfl (by decide +kernel) ⟨Nat.le_of_ble_eq_true rfl, Nat.le_of_ble_eq_true rfl⟩) ⟨xr_blind, fun U hU hW => xr_mk hU hW hPc hK⟩ rfl rfl hl.1 rfl (lv_room (Nat.le_of_ble_eq_true rfl)) dX11_nooks_24 ⟨Nat.le_of_ble_eq_true rfl, Nat.le_of_ble_eq_true rfl⟩).run (fun r24 hr24 => ?_)
        clear hPc
        refine lv_iconst (v := 1) hx hb dX11_nooks_27 (by decide) ?_
        have j37 : ∀ (ls : Array Slot) (v37_1 : Int32), zB v37_1 0 255 → lv_has ls 3 [(2, .int v4_2), (1, .int v37_1), (0, .ref SO)] → W p l e ({ frames := 1, cells := 0, slots := 0, locals := 20 } : Room) s m ([.ref SO] : List Value).toArray below meth c s.heap [] 0 0 Q (F0 m 37 ls []) := by
          intro ls v37_1 bv37_1_k37 hl
          obtain ⟨y37, by37, ry37, ey37⟩ := zi_inc (x := v4_2) (k := 1) (a := 1) (b := 8) bx12f_v4_2 (by decide) (by decide) (by decide) (by decide) (by decide)
          refine lv_iinc (v := y37) (lv' := [(2, .int y37), (1, .int v37_1), (0, .ref SO)]) hx hb dX11_nooks_37 hl (k := 0) rfl ey37 (by decide) rfl (fun ls hl => ?_)
          refine lv_goto (tgt := 4) hx hb dX11_nooks_40 (by decide) ?_
          exact ih4 ls y37 v37_1 (zB_w by37 (by decide) (by decide)) bv37_1_k37 (zM_us (k := 1) hm4 ry37 (by decide)) (lv_sub hl [0, 1, 2] rfl)
        refine lv_icmp_gt (tgt := 37) hx hb dX11_nooks_28 (by decide) (fun c28 => ?_) (fun c28 => ?_)
        · have by28t_r24 : zB r24 2 63 := zB_ltv (zl c28) (show zB 1 1 1 from ⟨by decide, by decide⟩) hr24 (by decide)
          exact j37 ls v4_1 bv4_1_k4 (lv_sub hl [0, 1, 2] rfl)
        · have bx28f_r24 : zB r24 0 1 := zB_leu (zg c28) hr24 (show zB 1 1 1 from ⟨by decide, by decide⟩) (by decide)
          refine lv_iload_n hx hb dX11_nooks_31 rfl (lv_at hl 1 rfl) ?_
          refine lv_iconst (v := 1) hx hb dX11_nooks_32 (by decide) ?_
          refine lv_iload_n hx hb dX11_nooks_33 rfl (lv_at hl 0 rfl) ?_
          refine lv_ishl hx hb dX11_nooks_34 ?_
          refine zi_top (a := 1) (b := 128) (zB_shl1 bx12f_v4_2 (by decide) (by decide) (by decide) (by decide)) (fun y34 by34 => ?_)
          refine lv_ior hx hb dX11_nooks_35 ?_
          refine zi_top (a := 1) (b := 255) (zB_or 8 bv4_1_k4 by34 (by decide) (by decide) (by decide) (by decide) (by decide) (by decide) (by decide)) (fun y35 by35 => ?_)
          refine lv_istore_n (lv' := [(1, .int y35), (2, .int v4_2), (0, .ref SO)]) hx hb dX11_nooks_36 rfl hl (by decide) rfl (fun ls hl => ?_)
          exact j37 ls y35 (zB_w by35 (by decide) (by decide)) (lv_sub hl [1, 0, 2] rfl)
  refine lv_istore_n (lv' := [(2, .int 0), (1, .int 0), (0, .ref SO)]) hx hb dX11_nooks_3 rfl hl (by decide) rfl (fun ls hl => ?_)
  exact j4 9 ls 0 0 (zB_w (show zB 0 0 0 from ⟨by decide, by decide⟩) (by decide) (by decide)) (zB_w (show zB 0 0 0 from ⟨by decide, by decide⟩) (by decide) (by decide)) (zM_ui (show zB 0 0 0 from ⟨by decide, by decide⟩) (by decide)) (lv_sub hl [0, 1, 2] rfl)
set_option maxHeartbeats 4000000 in
set_option maxRecDepth 100000 in
theorem c_X11_echo (l : Launch) (D : va_G) (cI : ClassId) (cB : ClassId) (cL : ClassId) (cZ : ClassId) (cG : ClassId) (SO : Nat) (x0 : Int32) (x1 : Int32) (PL : Nat) (DR : Nat) (TA : Nat) (RE : Nat) (FL : Nat) (RO : Nat) (HU : Nat) (ME : Nat) (TR : Nat) (NI : Nat) (PL_rooms : Int32) (aPL : Nat → Nat) (PL_doors : Int32) (PL_things : Int32) (FO : Nat) (PL_draw : Int32) (PL_drawTold : Int32) (aFL : Nat → Nat) (FL_parting : Int32) (FL_far : Nat → Int32) (PL_creaks : Nat → Int32) (b_PL_rooms : zB PL_rooms 0 8) (b_PL_doors : zB PL_doors 0 12) (b_PL_things : zB PL_things 0 6) (s_FL_far_0 : zA FL_far 0 64 (-1) 7) : Met l yX11_echo wsX11_echo ({ frames := 1, cells := 0, slots := 0, locals := 22 }) (xr D [(cI, .int), (cB, .byte), (cL, .long), (cZ, .boolean), (cG, .array .int)] [(SO, .inr (11, oX11 PL DR TA RE FL RO HU ME TR NI)), (PL, .inr (5, oX5 FO aPL PL_rooms PL_doors PL_things PL_draw PL_drawTold)), (FL, .inr (0, oX0 PL aFL FL_parting)), ((aFL 2), .inl (cI, 64, .inl FL_far)), ((aPL 2), .inl (cI, 8, .inl PL_creaks))] [.ref SO, .int x0, .int x1]) (vp_Si (fun r => True)) 0 0 (fun _ => False) := by
  refine Met.ofW (cc := cX11_echo) (maxL := 6) (ret := (some .int)) (by decide) rfl ?_
  intro p e s m args below meth c s₁ B hml hv
  obtain ⟨rfl, hP, hK⟩ := hv
  have hx := B.exec
  have hb := B.bytes
  have hr := B.returns
  have hts := atoms_spec (ws := wsX11_echo) B.pre
  have hown : s.vm.findClass RX11 = some m.cls := findClass_of_methodNamed B.named
  have hlocks := B.notSynchronized
  clear B
  have hl := lv_entry ([.ref SO, .int x0, .int x1]) (n := 6) (Nat.le_of_ble_eq_true rfl)
  rw [lg_entry_eq]
  generalize (lg_sl ([.ref SO, .int x0, .int x1]) ++ List.replicate (6 - (lg_sl ([.ref SO, .int x0, .int x1])).length) Slot.unset).toArray = ls at hl ⊢
  replace hl : lv_has ls 6 [(0, .ref SO), (1, .int x0), (2, .int x1)] := hl
  refine zz_abs (R := ({ frames := 1, cells := 0, slots := 0, locals := 22 } : Room)) (fun Q up => ?_)
  refine lv_aload_n hx hb dX11_echo_0 rfl (lv_at hl 0 rfl) ?_
  refine lv_iload_n hx hb dX11_echo_1 rfl (lv_at hl 1 rfl) ?_
  have hPc := hP.sub (ws' := [(SO, .inr (11, oX11 PL DR TA RE FL RO HU ME TR NI)), (PL, .inr (5, oX5 FO aPL PL_rooms PL_doors PL_things PL_draw PL_drawTold))]) [0, 1] rfl
  refine vp_callSi (va_runV (As := [.int x0]) (rest := []) ⟨hx, hb, hml, hown, hts⟩ (c_X11_isRoom l D cI cB cL cZ cG SO x0 PL DR TA RE FL RO HU ME TR NI PL_rooms aPL PL_doors PL_things FO PL_draw PL_drawTold b_PL_rooms b_PL_doors b_PL_things) (cwV 1 hts gX11_echo_X11_isRoom rfl rfl rfl (by decide +kernel) ⟨Nat.le_of_ble_eq_true rfl, Nat.le_of_ble_eq_true rfl⟩) ⟨xr_blind, va_recv hK hP (ci := 11) (q0 := 0) rfl rfl, fun U hU hW => xr_mk hU hW hPc hK⟩ rfl rfl hl.1 rfl (lv_room (Nat.le_of_ble_eq_true rfl)) dX11_echo_2 ⟨Nat.le_of_ble_eq_true rfl, Nat.le_of_ble_eq_true rfl⟩).run (fun r2 hr2 => ?_)
  clear hPc
  rcases hr2 with rfl | ⟨rfl, hr2_1_0⟩
  · refine lv_if_eq (tgt := 18) hx hb dX11_echo_5 (by decide) (fun _ => ?_) (fun c5 => absurd (by decide) c5)
    refine lv_iconst (v := (-1)) hx hb dX11_echo_18 (by decide) ?_
    exact up _ _ _ (W.iret (v := (-1)) hx hb hr (fun t ht hW => ⟨(-1), rfl, trivial, ht⟩) (fun q hq => by cases hq) dX11_echo_19)
  · refine lv_if_eq (tgt := 18) hx hb dX11_echo_5 (by decide) (fun c5 => absurd c5 (by decide)) (fun _ => ?_)
    refine lv_iload_n hx hb dX11_echo_8 rfl (lv_at hl 2 rfl) ?_
    refine lv_if_lt (tgt := 18) hx hb dX11_echo_9 (by decide) (fun c9 => ?_) (fun c9 => ?_)
    · have bx9t_x1 : zB x1 (-2147483648) (-1) := zB_ltu (zl c9) (zB_top x1) (show zB 0 0 0 from ⟨by decide, by decide⟩) (by decide)
      refine lv_iconst (v := (-1)) hx hb dX11_echo_18 (by decide) ?_
      exact up _ _ _ (W.iret (v := (-1)) hx hb hr (fun t ht hW => ⟨(-1), rfl, trivial, ht⟩) (fun q hq => by cases hq) dX11_echo_19)
    · have by9f_x1 : zB x1 0 2147483647 := zB_lev (zg c9) (show zB 0 0 0 from ⟨by decide, by decide⟩) (zB_top x1) (by decide)
      refine lv_iload_n hx hb dX11_echo_12 rfl (lv_at hl 2 rfl) ?_
      refine lv_bipush (v := 8) hx hb dX11_echo_13 (by decide) ?_
      refine lv_icmp_le (tgt := 20) hx hb dX11_echo_15 (by decide) (fun c15 => ?_) (fun c15 => ?_)
      · have bx15t_x1 : zB x1 0 8 := zB_leu (ze c15) by9f_x1 (show zB 8 8 8 from ⟨by decide, by decide⟩) (by decide)
        refine lv_iconst (v := 0) hx hb dX11_echo_20 (by decide) ?_
        refine lv_istore_n (lv' := [(3, .int 0), (0, .ref SO), (1, .int x0), (2, .int x1)]) hx hb dX11_echo_21 rfl hl (by decide) rfl (fun ls hl => ?_)
        refine lv_iconst (v := 0) hx hb dX11_echo_22 (by decide) ?_
        have j25 : ∀ (n25 : Nat) (ls : Array Slot) (v25_4 : Int32) (v25_3 : Int32), zB v25_4 0 8 → zA FL_far 0 64 (-1) 7 → (8 + 1 - v25_4.toInt) ≤ (n25 : Int) → lv_has ls 6 [(4, .int v25_4), (3, .int v25_3), (0, .ref SO), (1, .int x0), (2, .int x1)] → W p l e ({ frames := 1, cells := 0, slots := 0, locals := 22 } : Room) s m ([.ref SO, .int x0, .int x1] : List Value).toArray below meth c s.heap [] 0 0 Q (F0 m 25 ls []) := by
          intro n25
          induction n25 with
          | zero => intro ls v25_4 v25_3 bv25_4_k25 sFL_far_0_k25 hm25 hl; exact zM_u0 bv25_4_k25 hm25
          | succ n25 ih25 =>
            intro ls v25_4 v25_3 bv25_4_k25 sFL_far_0_k25 hm25 hl
            refine lv_iload hx hb dX11_echo_25 (lv_at hl 0 rfl) ?_
            refine lv_aload_n hx hb dX11_echo_27 rfl (lv_at hl 2 rfl) ?_
            refine va_get (D := D) (ci := 11) (v := .ref PL) (C := RX11) (T := TX11) (N := 10) hx hb hts iw_X11_echo_X11 hown hK hP 0 rfl rfl 0 (by decide) (hts (.fieldLink RX11 10 "SoldHouse" "plan" "LSoldHouse$Plan;") (List.mem_of_getElem? (i := 1) rfl)) (fun _ h9 => h9) rfl dX11_echo_28 ?_
            refine va_get (D := D) (ci := 5) (v := .int PL_rooms) (C := RX5) (T := TX5) (N := 16) hx hb hts iw_X11_echo_X5 hown hK hP 1 rfl rfl 0 (by decide) (hts (.fieldLink RX11 101 "SoldHouse$Plan" "rooms" "I") (List.mem_of_getElem? (i := 2) rfl)) (fun _ h9 => h9) rfl dX11_echo_31 ?_
            refine lv_icmp_ge (tgt := 80) hx hb dX11_echo_34 (by decide) (fun c34 => ?_) (fun c34 => ?_)
            · refine lv_iload_n hx hb dX11_echo_80 rfl (lv_at hl 1 rfl) ?_
              exact up _ _ _ (W.iret (v := v25_3) hx hb hr (fun t ht hW => ⟨v25_3, rfl, trivial, ht⟩) (fun q hq => by cases hq) dX11_echo_81)
            · have bx34f_v25_4 : zB v25_4 0 7 := zB_ltu (zf c34) bv25_4_k25 b_PL_rooms (by decide)
              have by34f_PL_rooms : zB PL_rooms 1 8 := zB_ltv (zf c34) bx34f_v25_4 b_PL_rooms (by decide)
              refine lv_aload_n hx hb dX11_echo_37 rfl (lv_at hl 2 rfl) ?_
              refine va_get (D := D) (ci := 11) (v := .ref FL) (C := RX11) (T := TX11) (N := 10) hx hb hts iw_X11_echo_X11 hown hK hP 0 rfl rfl 4 (by decide) (hts (.fieldLink RX11 40 "SoldHouse" "floor" "LSoldHouse$Floor;") (List.mem_of_getElem? (i := 3) rfl)) (fun _ h9 => h9) rfl dX11_echo_38 ?_
              refine lv_iload_n hx hb dX11_echo_41 rfl (lv_at hl 3 rfl) ?_
              refine lv_iload hx hb dX11_echo_42 (lv_at hl 0 rfl) ?_
              have hPc := hP.sub (ws' := [(FL, .inr (0, oX0 PL aFL FL_parting)), ((aFL 2), .inl (cI, 64, .inl FL_far))]) [2, 3] rfl
              refine vp_callSi (va_runV (As := [.int x0, .int v25_4]) (rest := []) ⟨hx, hb, hml, hown, hts⟩ (c_X0_farOf l D cI cB cL cZ cG FL x0 v25_4 PL aFL FL_parting FL_far hr2_1_0 bx34f_v25_4 sFL_far_0_k25) (cwV 2 hts gX11_echo_X0_farOf rfl rfl rfl (by decide +kernel) ⟨Nat.le_of_ble_eq_true rfl, Nat.le_of_ble_eq_true rfl⟩) ⟨xr_blind, va_recv hK hP (ci := 0) (q0 := 2) rfl rfl, fun U hU hW => xr_mk hU hW hPc hK⟩ rfl rfl hl.1 rfl (lv_room (Nat.le_of_ble_eq_true rfl)) dX11_echo_44 ⟨Nat.le_of_ble_eq_true rfl, Nat.le_of_ble_eq_true rfl⟩).run (fun r44 hr44 => ?_)
              clear hPc
              refine lv_istore (lv' := [(5, .int r44), (4, .int v25_4), (3, .int v25_3), (0, .ref SO), (1, .int x0), (2, .int x1)]) hx hb dX11_echo_47 hl (by decide) rfl (fun ls hl => ?_)
              refine lv_iload hx hb dX11_echo_49 (lv_at hl 0 rfl) ?_
              refine lv_iconst (v := (-1)) hx hb dX11_echo_51 (by decide) ?_
              have j74 : ∀ (ls : Array Slot) (v74_3 : Int32), zA FL_far 0 64 (-1) 7 → lv_has ls 6 [(5, .int r44), (4, .int v25_4), (3, .int v74_3), (0, .ref SO), (1, .int x0), (2, .int x1)] → W p l e ({ frames := 1, cells := 0, slots := 0, locals := 22 } : Room) s m ([.ref SO, .int x0, .int x1] : List Value).toArray below meth c s.heap [] 0 0 Q (F0 m 74 ls []) := by
                intro ls v74_3 sFL_far_0_k74 hl
                obtain ⟨y74, by74, ry74, ey74⟩ := zi_inc (x := v25_4) (k := 1) (a := 1) (b := 8) bx34f_v25_4 (by decide) (by decide) (by decide) (by decide) (by decide)
                refine lv_iinc (v := y74) (lv' := [(4, .int y74), (5, .int r44), (3, .int v74_3), (0, .ref SO), (1, .int x0), (2, .int x1)]) hx hb dX11_echo_74 hl (k := 1) rfl ey74 (by decide) rfl (fun ls hl => ?_)
                refine lv_goto (tgt := 25) hx hb dX11_echo_77 (by decide) ?_
                exact ih25 ls y74 v74_3 (zB_w by74 (by decide) (by decide)) sFL_far_0_k74 (zM_us (k := 1) hm25 ry74 (by decide)) (lv_sub hl [0, 2, 3, 4, 5] rfl)
              refine lv_icmp_eq (tgt := 74) hx hb dX11_echo_52 (by decide) (fun c52 => ?_) (fun c52 => ?_)
              · have be52t_r44 : zB r44 (-1) (-1) := zB_eq c52 hr44 (show zB (-1) (-1) (-1) from ⟨by decide, by decide⟩) (by decide) (by decide)
                exact j74 ls v25_3 sFL_far_0_k25 (lv_sub hl [0, 1, 2, 3, 4, 5] rfl)
              · have bn52f_r44 : zB r44 0 7 := zB_neL c52 hr44 (show zB (-1) (-1) (-1) from ⟨by decide, by decide⟩) (by decide)
                refine lv_iload hx hb dX11_echo_55 (lv_at hl 0 rfl) ?_
                refine lv_iload_n hx hb dX11_echo_57 rfl (lv_at hl 5 rfl) ?_
                refine lv_icmp_gt (tgt := 74) hx hb dX11_echo_58 (by decide) (fun c58 => ?_) (fun c58 => ?_)
                · have bx58t_x1 : zB x1 0 6 := zB_ltu (zl c58) bx15t_x1 bn52f_r44 (by decide)
                  have by58t_r44 : zB r44 1 7 := zB_ltv (zl c58) bx58t_x1 bn52f_r44 (by decide)
                  exact j74 ls v25_3 sFL_far_0_k25 (lv_sub hl [0, 1, 2, 3, 4, 5] rfl)
                · refine lv_iload_n hx hb dX11_echo_61 rfl (lv_at hl 2 rfl) ?_
                  refine lv_aload_n hx hb dX11_echo_62 rfl (lv_at hl 3 rfl) ?_
                  refine va_get (D := D) (ci := 11) (v := .ref PL) (C := RX11) (T := TX11) (N := 10) hx hb hts iw_X11_echo_X11 hown hK hP 0 rfl rfl 0 (by decide) (hts (.fieldLink RX11 10 "SoldHouse" "plan" "LSoldHouse$Plan;") (List.mem_of_getElem? (i := 1) rfl)) (fun _ h9 => h9) rfl dX11_echo_63 ?_
                  refine va_get (D := D) (ci := 5) (v := .ref (aPL 2)) (C := RX5) (T := TX5) (N := 16) hx hb hts iw_X11_echo_X5 hown hK hP 1 rfl rfl 2 (by decide) (hts (.fieldLink RX11 114 "SoldHouse$Plan" "creaks" "[I") (List.mem_of_getElem? (i := 4) rfl)) (fun _ h9 => h9) rfl dX11_echo_66 ?_
                  refine lv_iload hx hb dX11_echo_69 (lv_at hl 1 rfl) ?_
                  refine va_iald hx hb hK hP 4 0 rfl rfl (zB_in bx34f_v25_4 (by decide) (by decide)) dX11_echo_71 ?_
                  refine lv_topi (fun y71 _ => ?_)
                  refine lv_iadd hx hb dX11_echo_72 ?_
                  refine lv_topi (fun y72 _ => ?_)
                  refine lv_istore_n (lv' := [(3, .int y72), (5, .int r44), (4, .int v25_4), (0, .ref SO), (1, .int x0), (2, .int x1)]) hx hb dX11_echo_73 rfl hl (by decide) rfl (fun ls hl => ?_)
                  exact j74 ls y72 sFL_far_0_k25 (lv_sub hl [1, 2, 0, 3, 4, 5] rfl)
        refine lv_istore (lv' := [(4, .int 0), (3, .int 0), (0, .ref SO), (1, .int x0), (2, .int x1)]) hx hb dX11_echo_23 hl (by decide) rfl (fun ls hl => ?_)
        exact j25 9 ls 0 0 (zB_w (show zB 0 0 0 from ⟨by decide, by decide⟩) (by decide) (by decide)) s_FL_far_0 (zM_ui (show zB 0 0 0 from ⟨by decide, by decide⟩) (by decide)) (lv_sub hl [0, 1, 2, 3, 4] rfl)
      · have by15f_x1 : zB x1 9 2147483647 := zB_ltv (zf c15) (show zB 8 8 8 from ⟨by decide, by decide⟩) by9f_x1 (by decide)
        refine lv_iconst (v := (-1)) hx hb dX11_echo_18 (by decide) ?_
        exact up _ _ _ (W.iret (v := (-1)) hx hb hr (fun t ht hW => ⟨(-1), rfl, trivial, ht⟩) (fun q hq => by cases hq) dX11_echo_19)
set_option maxHeartbeats 4000000 in
set_option maxRecDepth 100000 in
theorem c_X11_mend (l : Launch) (D : va_G) (cI : ClassId) (cB : ClassId) (cL : ClassId) (cZ : ClassId) (cG : ClassId) (SO : Nat) (x0 : Int32) (PL : Nat) (DR : Nat) (TA : Nat) (RE : Nat) (FL : Nat) (RO : Nat) (HU : Nat) (ME : Nat) (TR : Nat) (NI : Nat) (aME : Nat → Nat) (ME_oldest : Int32) (ME_done : Int32) (ME_undone : Int32) (aFL : Nat → Nat) (FL_parting : Int32) (PL_rooms : Int32) (aPL : Nat → Nat) (PL_doors : Int32) (PL_things : Int32) (FO : Nat) (PL_draw : Int32) (PL_drawTold : Int32) (ME_now : Nat → Int32) (FL_far : Nat → Int32) (b_ME_oldest : zB ME_oldest 0 40) (b_ME_done : zB ME_done 0 40) (b_ME_undone : zB ME_undone 0 40) (b_PL_rooms : zB PL_rooms 0 8) (b_PL_doors : zB PL_doors 0 12) (b_PL_things : zB PL_things 0 6) (s_ME_now_0 : zA ME_now 0 12 0 7) (s_FL_far_0 : zA FL_far 0 64 (-1) 7) : Met l yX11_mend wsX11_mend ({ frames := 3, cells := 0, slots := 0, locals := 70 }) (xr D [(cI, .int), (cB, .byte), (cL, .long), (cZ, .boolean), (cG, .array .int)] [(SO, .inr (11, oX11 PL DR TA RE FL RO HU ME TR NI)), (ME, .inr (3, oX3 FL aME ME_oldest ME_done ME_undone)), (FL, .inr (0, oX0 PL aFL FL_parting)), (PL, .inr (5, oX5 FO aPL PL_rooms PL_doors PL_things PL_draw PL_drawTold)), ((aME 1), .inl (cI, 32, .inl ME_now)), ((aFL 2), .inl (cI, 64, .inl FL_far))] [.ref SO, .int x0]) (vp_Si (fun r => True)) 0 0 (fun _ => False) := by
  refine Met.ofW (cc := cX11_mend) (maxL := 2) (ret := (some .int)) (by decide) rfl ?_
  intro p e s m args below meth c s₁ B hml hv
  obtain ⟨rfl, hP, hK⟩ := hv
  have hx := B.exec
  have hb := B.bytes
  have hr := B.returns
  have hts := atoms_spec (ws := wsX11_mend) B.pre
  have hown : s.vm.findClass RX11 = some m.cls := findClass_of_methodNamed B.named
  have hlocks := B.notSynchronized
  clear B
  have hl := lv_entry ([.ref SO, .int x0]) (n := 2) (Nat.le_of_ble_eq_true rfl)
  rw [lg_entry_eq]
  generalize (lg_sl ([.ref SO, .int x0]) ++ List.replicate (2 - (lg_sl ([.ref SO, .int x0])).length) Slot.unset).toArray = ls at hl ⊢
  replace hl : lv_has ls 2 [(0, .ref SO), (1, .int x0)] := hl
  refine lv_iload_n hx hb dX11_mend_0 rfl (lv_at hl 1 rfl) ?_
  refine lv_if_lt (tgt := 10) hx hb dX11_mend_1 (by decide) (fun c1 => ?_) (fun c1 => ?_)
  · have bx1t_x0 : zB x0 (-2147483648) (-1) := zB_ltu (zl c1) (zB_top x0) (show zB 0 0 0 from ⟨by decide, by decide⟩) (by decide)
    refine lv_iconst (v := (-1)) hx hb dX11_mend_10 (by decide) ?_
    exact W.iret (v := (-1)) hx hb hr (fun t ht hW => ⟨(-1), rfl, trivial, ht⟩) (fun q hq => by cases hq) dX11_mend_11
  · have by1f_x0 : zB x0 0 2147483647 := zB_lev (zg c1) (show zB 0 0 0 from ⟨by decide, by decide⟩) (zB_top x0) (by decide)
    refine lv_iload_n hx hb dX11_mend_4 rfl (lv_at hl 1 rfl) ?_
    refine lv_bipush (v := 99) hx hb dX11_mend_5 (by decide) ?_
    refine lv_icmp_le (tgt := 12) hx hb dX11_mend_7 (by decide) (fun c7 => ?_) (fun c7 => ?_)
    · have bx7t_x0 : zB x0 0 99 := zB_leu (ze c7) by1f_x0 (show zB 99 99 99 from ⟨by decide, by decide⟩) (by decide)
      refine lv_aload_n hx hb dX11_mend_12 rfl (lv_at hl 0 rfl) ?_
      refine va_get (D := D) (ci := 11) (v := .ref ME) (C := RX11) (T := TX11) (N := 10) hx hb hts iw_X11_mend_X11 hown hK hP 0 rfl rfl 7 (by decide) (hts (.fieldLink RX11 63 "SoldHouse" "memory" "LSoldHouse$Memory;") (List.mem_of_getElem? (i := 1) rfl)) (fun _ h9 => h9) rfl dX11_mend_13 ?_
      refine lv_iload_n hx hb dX11_mend_16 rfl (lv_at hl 1 rfl) ?_
      have hPc := hP.sub (ws' := [(ME, .inr (3, oX3 FL aME ME_oldest ME_done ME_undone)), (FL, .inr (0, oX0 PL aFL FL_parting)), (PL, .inr (5, oX5 FO aPL PL_rooms PL_doors PL_things PL_draw PL_drawTold)), ((aME 1), .inl (cI, 32, .inl ME_now)), ((aFL 2), .inl (cI, 64, .inl FL_far))]) [1, 2, 3, 4, 5] rfl
      refine vp_callSi (va_runV (As := [.int x0]) (rest := []) ⟨hx, hb, hml, hown, hts⟩ (c_X3_mostMended l D cI cB cL cZ cG ME x0 FL aME ME_oldest ME_done ME_undone PL aFL FL_parting PL_rooms aPL PL_doors PL_things FO PL_draw PL_drawTold ME_now FL_far b_ME_oldest b_ME_done b_ME_undone b_PL_rooms b_PL_doors b_PL_things s_ME_now_0 s_FL_far_0) (cwV 1 hts gX11_mend_X3_mostMended rfl rfl rfl (by decide +kernel) ⟨Nat.le_of_ble_eq_true rfl, Nat.le_of_ble_eq_true rfl⟩) ⟨xr_blind, va_recv hK hP (ci := 3) (q0 := 1) rfl rfl, fun U hU hW => xr_mk hU hW hPc hK⟩ rfl rfl hl.1 rfl (lv_room (Nat.le_of_ble_eq_true rfl)) dX11_mend_17 ⟨Nat.le_of_ble_eq_true rfl, Nat.le_of_ble_eq_true rfl⟩).run (fun r17 hr17 => ?_)
      clear hPc
      clear hr17
      exact W.iret (v := r17) hx hb hr (fun t ht hW => ⟨r17, rfl, trivial, ht⟩) (fun q hq => by cases hq) dX11_mend_20
    · have by7f_x0 : zB x0 100 2147483647 := zB_ltv (zf c7) (show zB 99 99 99 from ⟨by decide, by decide⟩) by1f_x0 (by decide)
      refine lv_iconst (v := (-1)) hx hb dX11_mend_10 (by decide) ?_
      exact W.iret (v := (-1)) hx hb hr (fun t ht hW => ⟨(-1), rfl, trivial, ht⟩) (fun q hq => by cases hq) dX11_mend_11
set_option maxHeartbeats 4000000 in
set_option maxRecDepth 100000 in
theorem c_X11_regret (l : Launch) (D : va_G) (cI : ClassId) (cB : ClassId) (cL : ClassId) (cZ : ClassId) (cG : ClassId) (SO : Nat) (PL : Nat) (DR : Nat) (TA : Nat) (RE : Nat) (FL : Nat) (RO : Nat) (HU : Nat) (ME : Nat) (TR : Nat) (NI : Nat) (aME : Nat → Nat) (ME_oldest : Int32) (ME_done : Int32) (ME_undone : Int32) (aFL : Nat → Nat) (FL_parting : Int32) (PL_rooms : Int32) (aPL : Nat → Nat) (PL_doors : Int32) (PL_things : Int32) (FO : Nat) (PL_draw : Int32) (PL_drawTold : Int32) (PL_them : Nat → Int32) (PL_us : Nat → Int32) (ME_now : Nat → Int32) (b_ME_oldest : zB ME_oldest 0 40) (b_ME_done : zB ME_done 0 40) (b_ME_undone : zB ME_undone 0 40) (b_PL_rooms : zB PL_rooms 0 8) (b_PL_doors : zB PL_doors 0 12) (b_PL_things : zB PL_things 0 6) (s_ME_now_0 : zA ME_now 0 12 0 7) : Met l yX11_regret wsX11_regret ({ frames := 2, cells := 0, slots := 0, locals := 45 }) (xr D [(cI, .int), (cB, .byte), (cL, .long), (cZ, .boolean), (cG, .array .int)] [(SO, .inr (11, oX11 PL DR TA RE FL RO HU ME TR NI)), (TR, .inr (10, oX10 ME)), (ME, .inr (3, oX3 FL aME ME_oldest ME_done ME_undone)), (FL, .inr (0, oX0 PL aFL FL_parting)), (PL, .inr (5, oX5 FO aPL PL_rooms PL_doors PL_things PL_draw PL_drawTold)), ((aPL 12), .inl (cI, 6, .inl PL_them)), ((aPL 11), .inl (cI, 6, .inl PL_us)), ((aME 1), .inl (cI, 32, .inl ME_now))] [.ref SO]) (vp_Si (fun r => zB r 0 63)) 0 0 (fun _ => False) := by
  refine Met.ofW (cc := cX11_regret) (maxL := 1) (ret := (some .int)) (by decide) rfl ?_
  intro p e s m args below meth c s₁ B hml hv
  obtain ⟨rfl, hP, hK⟩ := hv
  have hx := B.exec
  have hb := B.bytes
  have hr := B.returns
  have hts := atoms_spec (ws := wsX11_regret) B.pre
  have hown : s.vm.findClass RX11 = some m.cls := findClass_of_methodNamed B.named
  have hlocks := B.notSynchronized
  clear B
  have hl := lv_entry ([.ref SO]) (n := 1) (Nat.le_of_ble_eq_true rfl)
  rw [lg_entry_eq]
  generalize (lg_sl ([.ref SO]) ++ List.replicate (1 - (lg_sl ([.ref SO])).length) Slot.unset).toArray = ls at hl ⊢
  replace hl : lv_has ls 1 [(0, .ref SO)] := hl
  refine lv_aload_n hx hb dX11_regret_0 rfl (lv_at hl 0 rfl) ?_
  refine va_get (D := D) (ci := 11) (v := .ref TR) (C := RX11) (T := TX11) (N := 10) hx hb hts iw_X11_regret_X11 hown hK hP 0 rfl rfl 8 (by decide) (hts (.fieldLink RX11 72 "SoldHouse" "trader" "LSoldHouse$Trader;") (List.mem_of_getElem? (i := 1) rfl)) (fun _ h9 => h9) rfl dX11_regret_1 ?_
  have hPc := hP.sub (ws' := [(TR, .inr (10, oX10 ME)), (ME, .inr (3, oX3 FL aME ME_oldest ME_done ME_undone)), (FL, .inr (0, oX0 PL aFL FL_parting)), (PL, .inr (5, oX5 FO aPL PL_rooms PL_doors PL_things PL_draw PL_drawTold)), ((aPL 12), .inl (cI, 6, .inl PL_them)), ((aPL 11), .inl (cI, 6, .inl PL_us)), ((aME 1), .inl (cI, 32, .inl ME_now))]) [1, 2, 3, 4, 5, 6, 7] rfl
  refine vp_callSi (va_runV (As := []) (rest := []) ⟨hx, hb, hml, hown, hts⟩ (c_X10_betterElsewhere l D cI cB cL cZ cG TR ME FL aME ME_oldest ME_done ME_undone PL aFL FL_parting PL_rooms aPL PL_doors PL_things FO PL_draw PL_drawTold PL_them PL_us ME_now b_ME_oldest b_ME_done b_ME_undone b_PL_rooms b_PL_doors b_PL_things s_ME_now_0) (cwV 0 hts gX11_regret_X10_betterElsewhere rfl rfl rfl (by decide +kernel) ⟨Nat.le_of_ble_eq_true rfl, Nat.le_of_ble_eq_true rfl⟩) ⟨xr_blind, va_recv hK hP (ci := 10) (q0 := 1) rfl rfl, fun U hU hW => xr_mk hU hW hPc hK⟩ rfl rfl hl.1 rfl (lv_room (Nat.le_of_ble_eq_true rfl)) dX11_regret_4 ⟨Nat.le_of_ble_eq_true rfl, Nat.le_of_ble_eq_true rfl⟩).run (fun r4 hr4 => ?_)
  clear hPc
  exact W.iret (v := r4) hx hb hr (fun t ht hW => ⟨r4, rfl, hr4, ht⟩) (fun q hq => by cases hq) dX11_regret_7
set_option maxHeartbeats 4000000 in
set_option maxRecDepth 100000 in
theorem c_X11_trade (l : Launch) (D : va_G) (cI : ClassId) (cB : ClassId) (cL : ClassId) (cZ : ClassId) (cG : ClassId) (SO : Nat) (x0 : Int32) (PL : Nat) (DR : Nat) (TA : Nat) (RE : Nat) (FL : Nat) (RO : Nat) (HU : Nat) (ME : Nat) (TR : Nat) (NI : Nat) (aME : Nat → Nat) (ME_oldest : Int32) (ME_done : Int32) (ME_undone : Int32) (aFL : Nat → Nat) (FL_parting : Int32) (PL_rooms : Int32) (aPL : Nat → Nat) (PL_doors : Int32) (PL_things : Int32) (FO : Nat) (PL_draw : Int32) (PL_drawTold : Int32) (ME_now : Nat → Int32) (PL_us : Nat → Int32) (PL_them : Nat → Int32) (b_ME_oldest : zB ME_oldest 0 40) (b_ME_done : zB ME_done 0 40) (b_ME_undone : zB ME_undone 0 40) (b_PL_rooms : zB PL_rooms 0 8) (b_PL_doors : zB PL_doors 0 12) (b_PL_things : zB PL_things 0 6) (s_ME_now_0 : zA ME_now 0 12 0 7) : Met l yX11_trade wsX11_trade ({ frames := 3, cells := 0, slots := 0, locals := 70 }) (xr D [(cI, .int), (cB, .byte), (cL, .long), (cZ, .boolean), (cG, .array .int)] [(SO, .inr (11, oX11 PL DR TA RE FL RO HU ME TR NI)), (TR, .inr (10, oX10 ME)), (ME, .inr (3, oX3 FL aME ME_oldest ME_done ME_undone)), (FL, .inr (0, oX0 PL aFL FL_parting)), (PL, .inr (5, oX5 FO aPL PL_rooms PL_doors PL_things PL_draw PL_drawTold)), ((aME 1), .inl (cI, 32, .inl ME_now)), ((aPL 11), .inl (cI, 6, .inl PL_us)), ((aPL 12), .inl (cI, 6, .inl PL_them))] [.ref SO, .int x0]) (vp_Si (fun r => True)) 0 0 (fun _ => False) := by
  refine Met.ofW (cc := cX11_trade) (maxL := 5) (ret := (some .int)) (by decide) rfl ?_
  intro p e s m args below meth c s₁ B hml hv
  obtain ⟨rfl, hP, hK⟩ := hv
  have hx := B.exec
  have hb := B.bytes
  have hr := B.returns
  have hts := atoms_spec (ws := wsX11_trade) B.pre
  have hown : s.vm.findClass RX11 = some m.cls := findClass_of_methodNamed B.named
  have hlocks := B.notSynchronized
  clear B
  have hl := lv_entry ([.ref SO, .int x0]) (n := 5) (Nat.le_of_ble_eq_true rfl)
  rw [lg_entry_eq]
  generalize (lg_sl ([.ref SO, .int x0]) ++ List.replicate (5 - (lg_sl ([.ref SO, .int x0])).length) Slot.unset).toArray = ls at hl ⊢
  replace hl : lv_has ls 5 [(0, .ref SO), (1, .int x0)] := hl
  refine lv_aload_n hx hb dX11_trade_0 rfl (lv_at hl 0 rfl) ?_
  refine va_get (D := D) (ci := 11) (v := .ref TR) (C := RX11) (T := TX11) (N := 10) hx hb hts iw_X11_trade_X11 hown hK hP 0 rfl rfl 8 (by decide) (hts (.fieldLink RX11 72 "SoldHouse" "trader" "LSoldHouse$Trader;") (List.mem_of_getElem? (i := 1) rfl)) (fun _ h9 => h9) rfl dX11_trade_1 ?_
  have hPc := hP.sub (ws' := [(TR, .inr (10, oX10 ME)), (ME, .inr (3, oX3 FL aME ME_oldest ME_done ME_undone)), (FL, .inr (0, oX0 PL aFL FL_parting)), (PL, .inr (5, oX5 FO aPL PL_rooms PL_doors PL_things PL_draw PL_drawTold)), ((aME 1), .inl (cI, 32, .inl ME_now)), ((aPL 11), .inl (cI, 6, .inl PL_us)), ((aPL 12), .inl (cI, 6, .inl PL_them))]) [1, 2, 3, 4, 5, 6, 7] rfl
  refine vp_callSi (va_runV (As := []) (rest := []) ⟨hx, hb, hml, hown, hts⟩ (c_X10_bestPair l D cI cB cL cZ cG TR ME FL aME ME_oldest ME_done ME_undone PL aFL FL_parting PL_rooms aPL PL_doors PL_things FO PL_draw PL_drawTold ME_now PL_us PL_them b_ME_oldest b_ME_done b_ME_undone b_PL_rooms b_PL_doors b_PL_things s_ME_now_0) (cwV 0 hts gX11_trade_X10_bestPair rfl rfl rfl (by decide +kernel) ⟨Nat.le_of_ble_eq_true rfl, Nat.le_of_ble_eq_true rfl⟩) ⟨xr_blind, va_recv hK hP (ci := 10) (q0 := 1) rfl rfl, fun U hU hW => xr_mk hU hW hPc hK⟩ rfl rfl hl.1 rfl (lv_room (Nat.le_of_ble_eq_true rfl)) dX11_trade_4 ⟨Nat.le_of_ble_eq_true rfl, Nat.le_of_ble_eq_true rfl⟩).run (fun r4 hr4 => ?_)
  clear hPc
  refine lv_istore_n (lv' := [(2, .int r4), (0, .ref SO), (1, .int x0)]) hx hb dX11_trade_7 rfl hl (by decide) rfl (fun ls hl => ?_)
  refine lv_iload_n hx hb dX11_trade_8 rfl (lv_at hl 0 rfl) ?_
  refine lv_iconst (v := (-1)) hx hb dX11_trade_9 (by decide) ?_
  refine lv_icmp_ne (tgt := 15) hx hb dX11_trade_10 (by decide) (fun c10 => ?_) (fun c10 => ?_)
  · have bn10t_r4 : zB r4 0 35 := zB_neL c10 hr4 (show zB (-1) (-1) (-1) from ⟨by decide, by decide⟩) (by decide)
    refine lv_iload_n hx hb dX11_trade_15 rfl (lv_at hl 0 rfl) ?_
    refine lv_bipush (v := 6) hx hb dX11_trade_16 (by decide) ?_
    refine lv_idiv hx hb dX11_trade_18 (by decide) ?_
    refine zi_top (a := 0) (b := 5) (zB_div bn10t_r4 (show zB 6 6 6 from ⟨by decide, by decide⟩) (by decide) (by decide) (by decide) (by decide)) (fun y18 by18 => ?_)
    refine lv_istore_n (lv' := [(3, .int y18), (2, .int r4), (0, .ref SO), (1, .int x0)]) hx hb dX11_trade_19 rfl hl (by decide) rfl (fun ls hl => ?_)
    refine lv_iload_n hx hb dX11_trade_20 rfl (lv_at hl 1 rfl) ?_
    refine lv_bipush (v := 6) hx hb dX11_trade_21 (by decide) ?_
    refine lv_irem hx hb dX11_trade_23 (by decide) ?_
    refine zi_top (a := 0) (b := 5) (zB_rem bn10t_r4 (show zB 6 6 6 from ⟨by decide, by decide⟩) (by decide) (by decide) (by decide)) (fun y23 by23 => ?_)
    refine lv_istore (lv' := [(4, .int y23), (3, .int y18), (2, .int r4), (0, .ref SO), (1, .int x0)]) hx hb dX11_trade_24 hl (by decide) rfl (fun ls hl => ?_)
    refine lv_iload_n hx hb dX11_trade_26 rfl (lv_at hl 4 rfl) ?_
    by_cases c27_0 : x0 = 0
    · obtain rfl := c27_0
      refine lv_tableIn (off := 25) (tgt := 52) hx hb dX11_trade_27 (by decide) (by decide) (by decide) (by decide) ?_
      refine lv_aload_n hx hb dX11_trade_52 rfl (lv_at hl 3 rfl) ?_
      refine va_get (D := D) (ci := 11) (v := .ref TR) (C := RX11) (T := TX11) (N := 10) hx hb hts iw_X11_trade_X11 hown hK hP 0 rfl rfl 8 (by decide) (hts (.fieldLink RX11 72 "SoldHouse" "trader" "LSoldHouse$Trader;") (List.mem_of_getElem? (i := 1) rfl)) (fun _ h9 => h9) rfl dX11_trade_53 ?_
      refine lv_iload_n hx hb dX11_trade_56 rfl (lv_at hl 1 rfl) ?_
      refine lv_iload hx hb dX11_trade_57 (lv_at hl 0 rfl) ?_
      have hPc := hP.sub (ws' := [(TR, .inr (10, oX10 ME)), (ME, .inr (3, oX3 FL aME ME_oldest ME_done ME_undone)), (FL, .inr (0, oX0 PL aFL FL_parting)), (PL, .inr (5, oX5 FO aPL PL_rooms PL_doors PL_things PL_draw PL_drawTold)), ((aPL 11), .inl (cI, 6, .inl PL_us)), ((aPL 12), .inl (cI, 6, .inl PL_them))]) [1, 2, 3, 4, 6, 7] rfl
      refine vp_callSi (va_runV (As := [.int y18, .int y23]) (rest := []) ⟨hx, hb, hml, hown, hts⟩ (c_X10_gainOf l D cI cB cL cZ cG TR y18 y23 ME FL aME ME_oldest ME_done ME_undone PL aFL FL_parting PL_rooms aPL PL_doors PL_things FO PL_draw PL_drawTold PL_us PL_them by18 by23 b_ME_oldest b_ME_done b_ME_undone b_PL_rooms b_PL_doors b_PL_things) (cwV 2 hts gX11_trade_X10_gainOf rfl rfl rfl (by decide +kernel) ⟨Nat.le_of_ble_eq_true rfl, Nat.le_of_ble_eq_true rfl⟩) ⟨xr_blind, va_recv hK hP (ci := 10) (q0 := 1) rfl rfl, fun U hU hW => xr_mk hU hW hPc hK⟩ rfl rfl hl.1 rfl (lv_room (Nat.le_of_ble_eq_true rfl)) dX11_trade_59 ⟨Nat.le_of_ble_eq_true rfl, Nat.le_of_ble_eq_true rfl⟩).run (fun r59 hr59 => ?_)
      clear hPc
      clear hr59
      exact W.iret (v := r59) hx hb hr (fun t ht hW => ⟨r59, rfl, trivial, ht⟩) (fun q hq => by cases hq) dX11_trade_62
    by_cases c27_1 : x0 = 1
    · obtain rfl := c27_1
      refine lv_tableIn (off := 36) (tgt := 63) hx hb dX11_trade_27 (by decide) (by decide) (by decide) (by decide) ?_
      refine lv_iload_n hx hb dX11_trade_63 rfl (lv_at hl 1 rfl) ?_
      exact W.iret (v := y18) hx hb hr (fun t ht hW => ⟨y18, rfl, trivial, ht⟩) (fun q hq => by cases hq) dX11_trade_64
    by_cases c27_2 : x0 = 2
    · obtain rfl := c27_2
      refine lv_tableIn (off := 38) (tgt := 65) hx hb dX11_trade_27 (by decide) (by decide) (by decide) (by decide) ?_
      refine lv_iload hx hb dX11_trade_65 (lv_at hl 0 rfl) ?_
      exact W.iret (v := y23) hx hb hr (fun t ht hW => ⟨y23, rfl, trivial, ht⟩) (fun q hq => by cases hq) dX11_trade_67
    refine lv_tableOut (tgt := 68) hx hb dX11_trade_27 (by have h9_0 := zn (n := 0) c27_0 (by decide); have h9_1 := zn (n := 1) c27_1 (by decide); have h9_2 := zn (n := 2) c27_2 (by decide); omega) (by decide) ?_
    refine lv_iconst (v := (-1)) hx hb dX11_trade_68 (by decide) ?_
    exact W.iret (v := (-1)) hx hb hr (fun t ht hW => ⟨(-1), rfl, trivial, ht⟩) (fun q hq => by cases hq) dX11_trade_69
  · have be10f_r4 : zB r4 (-1) (-1) := zB_eq c10 hr4 (show zB (-1) (-1) (-1) from ⟨by decide, by decide⟩) (by decide) (by decide)
    refine lv_iconst (v := (-1)) hx hb dX11_trade_13 (by decide) ?_
    exact W.iret (v := (-1)) hx hb hr (fun t ht hW => ⟨(-1), rfl, trivial, ht⟩) (fun q hq => by cases hq) dX11_trade_14
set_option maxHeartbeats 4000000 in
set_option maxRecDepth 100000 in
theorem c_X11_trades (l : Launch) (D : va_G) (cI : ClassId) (cB : ClassId) (cL : ClassId) (cZ : ClassId) (cG : ClassId) (SO : Nat) (PL : Nat) (DR : Nat) (TA : Nat) (RE : Nat) (FL : Nat) (RO : Nat) (HU : Nat) (ME : Nat) (TR : Nat) (NI : Nat) (aME : Nat → Nat) (ME_oldest : Int32) (ME_done : Int32) (ME_undone : Int32) (aFL : Nat → Nat) (FL_parting : Int32) (PL_rooms : Int32) (aPL : Nat → Nat) (PL_doors : Int32) (PL_things : Int32) (FO : Nat) (PL_draw : Int32) (PL_drawTold : Int32) (ME_now : Nat → Int32) (PL_us : Nat → Int32) (PL_them : Nat → Int32) (b_ME_oldest : zB ME_oldest 0 40) (b_ME_done : zB ME_done 0 40) (b_ME_undone : zB ME_undone 0 40) (b_PL_rooms : zB PL_rooms 0 8) (b_PL_doors : zB PL_doors 0 12) (b_PL_things : zB PL_things 0 6) (s_ME_now_0 : zA ME_now 0 12 0 7) : Met l yX11_trades wsX11_trades ({ frames := 9, cells := 0, slots := 0, locals := 215 }) (xr D [(cI, .int), (cB, .byte), (cL, .long), (cZ, .boolean), (cG, .array .int)] [(SO, .inr (11, oX11 PL DR TA RE FL RO HU ME TR NI)), (TR, .inr (10, oX10 ME)), (ME, .inr (3, oX3 FL aME ME_oldest ME_done ME_undone)), (FL, .inr (0, oX0 PL aFL FL_parting)), (PL, .inr (5, oX5 FO aPL PL_rooms PL_doors PL_things PL_draw PL_drawTold)), ((aME 1), .inl (cI, 32, .inl ME_now)), ((aPL 11), .inl (cI, 6, .inl PL_us)), ((aPL 12), .inl (cI, 6, .inl PL_them))] [.ref SO]) (vp_Si (fun r => zB r 0 6)) 0 0 (fun _ => False) := by
  refine Met.ofW (cc := cX11_trades) (maxL := 1) (ret := (some .int)) (by decide) rfl ?_
  intro p e s m args below meth c s₁ B hml hv
  obtain ⟨rfl, hP, hK⟩ := hv
  have hx := B.exec
  have hb := B.bytes
  have hr := B.returns
  have hts := atoms_spec (ws := wsX11_trades) B.pre
  have hown : s.vm.findClass RX11 = some m.cls := findClass_of_methodNamed B.named
  have hlocks := B.notSynchronized
  clear B
  have hl := lv_entry ([.ref SO]) (n := 1) (Nat.le_of_ble_eq_true rfl)
  rw [lg_entry_eq]
  generalize (lg_sl ([.ref SO]) ++ List.replicate (1 - (lg_sl ([.ref SO])).length) Slot.unset).toArray = ls at hl ⊢
  replace hl : lv_has ls 1 [(0, .ref SO)] := hl
  refine lv_aload_n hx hb dX11_trades_0 rfl (lv_at hl 0 rfl) ?_
  refine va_get (D := D) (ci := 11) (v := .ref TR) (C := RX11) (T := TX11) (N := 10) hx hb hts iw_X11_trades_X11 hown hK hP 0 rfl rfl 8 (by decide) (hts (.fieldLink RX11 72 "SoldHouse" "trader" "LSoldHouse$Trader;") (List.mem_of_getElem? (i := 1) rfl)) (fun _ h9 => h9) rfl dX11_trades_1 ?_
  have hPc := hP.sub (ws' := [(TR, .inr (10, oX10 ME)), (ME, .inr (3, oX3 FL aME ME_oldest ME_done ME_undone)), (FL, .inr (0, oX0 PL aFL FL_parting)), (PL, .inr (5, oX5 FO aPL PL_rooms PL_doors PL_things PL_draw PL_drawTold)), ((aME 1), .inl (cI, 32, .inl ME_now)), ((aPL 11), .inl (cI, 6, .inl PL_us)), ((aPL 12), .inl (cI, 6, .inl PL_them))]) [1, 2, 3, 4, 5, 6, 7] rfl
  refine vp_callSi (va_runV (As := []) (rest := []) ⟨hx, hb, hml, hown, hts⟩ (c_X10_mostTrades l D cI cB cL cZ cG TR ME FL aME ME_oldest ME_done ME_undone PL aFL FL_parting PL_rooms aPL PL_doors PL_things FO PL_draw PL_drawTold ME_now PL_us PL_them b_ME_oldest b_ME_done b_ME_undone b_PL_rooms b_PL_doors b_PL_things s_ME_now_0) (cwV 0 hts gX11_trades_X10_mostTrades rfl rfl rfl (by decide +kernel) ⟨Nat.le_of_ble_eq_true rfl, Nat.le_of_ble_eq_true rfl⟩) ⟨xr_blind, va_recv hK hP (ci := 10) (q0 := 1) rfl rfl, fun U hU hW => xr_mk hU hW hPc hK⟩ rfl rfl hl.1 rfl (lv_room (Nat.le_of_ble_eq_true rfl)) dX11_trades_4 ⟨Nat.le_of_ble_eq_true rfl, Nat.le_of_ble_eq_true rfl⟩).run (fun r4 hr4 => ?_)
  clear hPc
  exact W.iret (v := r4) hx hb hr (fun t ht hW => ⟨r4, rfl, hr4, ht⟩) (fun q hq => by cases hq) dX11_trades_7
set_option maxHeartbeats 4000000 in
set_option maxRecDepth 100000 in
theorem c_X11_wealth (l : Launch) (D : va_G) (cI : ClassId) (cB : ClassId) (cL : ClassId) (cZ : ClassId) (cG : ClassId) (SO : Nat) (x0 : Int32) (PL : Nat) (DR : Nat) (TA : Nat) (RE : Nat) (FL : Nat) (RO : Nat) (HU : Nat) (ME : Nat) (TR : Nat) (NI : Nat) (PL_rooms : Int32) (aPL : Nat → Nat) (PL_doors : Int32) (PL_things : Int32) (FO : Nat) (PL_draw : Int32) (PL_drawTold : Int32) (PL_us : Nat → Int32) (aME : Nat → Nat) (ME_oldest : Int32) (ME_done : Int32) (ME_undone : Int32) (aFL : Nat → Nat) (FL_parting : Int32) (ME_now : Nat → Int32) (PL_them : Nat → Int32) (b_PL_rooms : zB PL_rooms 0 8) (b_PL_doors : zB PL_doors 0 12) (b_PL_things : zB PL_things 0 6) (b_ME_oldest : zB ME_oldest 0 40) (b_ME_done : zB ME_done 0 40) (b_ME_undone : zB ME_undone 0 40) (s_ME_now_0 : zA ME_now 0 12 0 7) : Met l yX11_wealth wsX11_wealth ({ frames := 1, cells := 0, slots := 0, locals := 24 }) (xr D [(cI, .int), (cB, .byte), (cL, .long), (cZ, .boolean), (cG, .array .int)] [(SO, .inr (11, oX11 PL DR TA RE FL RO HU ME TR NI)), (PL, .inr (5, oX5 FO aPL PL_rooms PL_doors PL_things PL_draw PL_drawTold)), ((aPL 11), .inl (cI, 6, .inl PL_us)), (TR, .inr (10, oX10 ME)), (ME, .inr (3, oX3 FL aME ME_oldest ME_done ME_undone)), (FL, .inr (0, oX0 PL aFL FL_parting)), ((aME 1), .inl (cI, 32, .inl ME_now)), ((aPL 12), .inl (cI, 6, .inl PL_them))] [.ref SO, .int x0]) (vp_Si (fun r => True)) 0 0 (fun _ => False) := by
  refine Met.ofW (cc := cX11_wealth) (maxL := 2) (ret := (some .int)) (by decide) rfl ?_
  intro p e s m args below meth c s₁ B hml hv
  obtain ⟨rfl, hP, hK⟩ := hv
  have hx := B.exec
  have hb := B.bytes
  have hr := B.returns
  have hts := atoms_spec (ws := wsX11_wealth) B.pre
  have hown : s.vm.findClass RX11 = some m.cls := findClass_of_methodNamed B.named
  have hlocks := B.notSynchronized
  clear B
  have hl := lv_entry ([.ref SO, .int x0]) (n := 2) (Nat.le_of_ble_eq_true rfl)
  rw [lg_entry_eq]
  generalize (lg_sl ([.ref SO, .int x0]) ++ List.replicate (2 - (lg_sl ([.ref SO, .int x0])).length) Slot.unset).toArray = ls at hl ⊢
  replace hl : lv_has ls 2 [(0, .ref SO), (1, .int x0)] := hl
  refine lv_iload_n hx hb dX11_wealth_0 rfl (lv_at hl 1 rfl) ?_
  by_cases c1_0 : x0 = 0
  · obtain rfl := c1_0
    refine lv_lookup (off := 27) (tgt := 28) hx hb dX11_wealth_1 (by decide) (by decide) (by decide) ?_
    refine lv_aload_n hx hb dX11_wealth_28 rfl (lv_at hl 0 rfl) ?_
    refine va_get (D := D) (ci := 11) (v := .ref TR) (C := RX11) (T := TX11) (N := 10) hx hb hts iw_X11_wealth_X11 hown hK hP 0 rfl rfl 8 (by decide) (hts (.fieldLink RX11 72 "SoldHouse" "trader" "LSoldHouse$Trader;") (List.mem_of_getElem? (i := 1) rfl)) (fun _ h9 => h9) rfl dX11_wealth_29 ?_
    refine lv_iconst (v := 1) hx hb dX11_wealth_32 (by decide) ?_
    refine lv_aload_n hx hb dX11_wealth_33 rfl (lv_at hl 0 rfl) ?_
    refine va_get (D := D) (ci := 11) (v := .ref PL) (C := RX11) (T := TX11) (N := 10) hx hb hts iw_X11_wealth_X11 hown hK hP 0 rfl rfl 0 (by decide) (hts (.fieldLink RX11 10 "SoldHouse" "plan" "LSoldHouse$Plan;") (List.mem_of_getElem? (i := 2) rfl)) (fun _ h9 => h9) rfl dX11_wealth_34 ?_
    refine va_get (D := D) (ci := 5) (v := .ref (aPL 11)) (C := RX5) (T := TX5) (N := 16) hx hb hts iw_X11_wealth_X5 hown hK hP 1 rfl rfl 11 (by decide) (hts (.fieldLink RX11 131 "SoldHouse$Plan" "us" "[I") (List.mem_of_getElem? (i := 3) rfl)) (fun _ h9 => h9) rfl dX11_wealth_37 ?_
    have hPc := hP.sub (ws' := [((aPL 11), .inl (cI, 6, .inl PL_us)), (TR, .inr (10, oX10 ME)), (ME, .inr (3, oX3 FL aME ME_oldest ME_done ME_undone)), (FL, .inr (0, oX0 PL aFL FL_parting)), (PL, .inr (5, oX5 FO aPL PL_rooms PL_doors PL_things PL_draw PL_drawTold)), ((aME 1), .inl (cI, 32, .inl ME_now))]) [2, 3, 4, 5, 1, 6] rfl
    refine vp_callSi (va_runV (As := [.int 1, .ref (aPL 11)]) (rest := []) ⟨hx, hb, hml, hown, hts⟩ (c_X10_worthOf l D cI cB cL cZ cG TR 1 (aPL 11) PL_us ME FL aME ME_oldest ME_done ME_undone PL aFL FL_parting PL_rooms aPL PL_doors PL_things FO PL_draw PL_drawTold ME_now b_ME_oldest b_ME_done b_ME_undone b_PL_rooms b_PL_doors b_PL_things s_ME_now_0) (cwV 2 hts gX11_wealth_X10_worthOf rfl rfl rfl (by decide +kernel) ⟨Nat.le_of_ble_eq_true rfl, Nat.le_of_ble_eq_true rfl⟩) ⟨xr_blind, va_recv hK hP (ci := 10) (q0 := 3) rfl rfl, fun U hU hW => xr_mk hU hW hPc hK⟩ rfl rfl hl.1 rfl (lv_room (Nat.le_of_ble_eq_true rfl)) dX11_wealth_40 ⟨Nat.le_of_ble_eq_true rfl, Nat.le_of_ble_eq_true rfl⟩).run (fun r40 hr40 => ?_)
    clear hPc
    clear hr40
    exact W.iret (v := r40) hx hb hr (fun t ht hW => ⟨r40, rfl, trivial, ht⟩) (fun q hq => by cases hq) dX11_wealth_43
  by_cases c1_1 : x0 = 1
  · obtain rfl := c1_1
    refine lv_lookup (off := 43) (tgt := 44) hx hb dX11_wealth_1 (by decide) (by decide) (by decide) ?_
    refine lv_aload_n hx hb dX11_wealth_44 rfl (lv_at hl 0 rfl) ?_
    refine va_get (D := D) (ci := 11) (v := .ref TR) (C := RX11) (T := TX11) (N := 10) hx hb hts iw_X11_wealth_X11 hown hK hP 0 rfl rfl 8 (by decide) (hts (.fieldLink RX11 72 "SoldHouse" "trader" "LSoldHouse$Trader;") (List.mem_of_getElem? (i := 1) rfl)) (fun _ h9 => h9) rfl dX11_wealth_45 ?_
    refine lv_iconst (v := 0) hx hb dX11_wealth_48 (by decide) ?_
    refine lv_aload_n hx hb dX11_wealth_49 rfl (lv_at hl 0 rfl) ?_
    refine va_get (D := D) (ci := 11) (v := .ref PL) (C := RX11) (T := TX11) (N := 10) hx hb hts iw_X11_wealth_X11 hown hK hP 0 rfl rfl 0 (by decide) (hts (.fieldLink RX11 10 "SoldHouse" "plan" "LSoldHouse$Plan;") (List.mem_of_getElem? (i := 2) rfl)) (fun _ h9 => h9) rfl dX11_wealth_50 ?_
    refine va_get (D := D) (ci := 5) (v := .ref (aPL 12)) (C := RX5) (T := TX5) (N := 16) hx hb hts iw_X11_wealth_X5 hown hK hP 1 rfl rfl 12 (by decide) (hts (.fieldLink RX11 134 "SoldHouse$Plan" "them" "[I") (List.mem_of_getElem? (i := 4) rfl)) (fun _ h9 => h9) rfl dX11_wealth_53 ?_
    have hPc := hP.sub (ws' := [((aPL 12), .inl (cI, 6, .inl PL_them)), (TR, .inr (10, oX10 ME)), (ME, .inr (3, oX3 FL aME ME_oldest ME_done ME_undone)), (FL, .inr (0, oX0 PL aFL FL_parting)), (PL, .inr (5, oX5 FO aPL PL_rooms PL_doors PL_things PL_draw PL_drawTold)), ((aME 1), .inl (cI, 32, .inl ME_now))]) [7, 3, 4, 5, 1, 6] rfl
    refine vp_callSi (va_runV (As := [.int 0, .ref (aPL 12)]) (rest := []) ⟨hx, hb, hml, hown, hts⟩ (c_X10_worthOf l D cI cB cL cZ cG TR 0 (aPL 12) PL_them ME FL aME ME_oldest ME_done ME_undone PL aFL FL_parting PL_rooms aPL PL_doors PL_things FO PL_draw PL_drawTold ME_now b_ME_oldest b_ME_done b_ME_undone b_PL_rooms b_PL_doors b_PL_things s_ME_now_0) (cwV 2 hts gX11_wealth_X10_worthOf rfl rfl rfl (by decide +kernel) ⟨Nat.le_of_ble_eq_true rfl, Nat.le_of_ble_eq_true rfl⟩) ⟨xr_blind, va_recv hK hP (ci := 10) (q0 := 3) rfl rfl, fun U hU hW => xr_mk hU hW hPc hK⟩ rfl rfl hl.1 rfl (lv_room (Nat.le_of_ble_eq_true rfl)) dX11_wealth_56 ⟨Nat.le_of_ble_eq_true rfl, Nat.le_of_ble_eq_true rfl⟩).run (fun r56 hr56 => ?_)
    clear hPc
    clear hr56
    exact W.iret (v := r56) hx hb hr (fun t ht hW => ⟨r56, rfl, trivial, ht⟩) (fun q hq => by cases hq) dX11_wealth_59
  refine lv_lookup (off := 59) (tgt := 60) hx hb dX11_wealth_1 (by decide) ((lv_osw c1_0 (by decide)).trans ((lv_osw c1_1 (by decide)).trans rfl)) (by decide) ?_
  refine lv_iconst (v := (-1)) hx hb dX11_wealth_60 (by decide) ?_
  exact W.iret (v := (-1)) hx hb hr (fun t ht hW => ⟨(-1), rfl, trivial, ht⟩) (fun q hq => by cases hq) dX11_wealth_61
set_option maxHeartbeats 4000000 in
set_option maxRecDepth 100000 in
theorem c_X11_off (l : Launch) (D : va_G) (cI : ClassId) (cB : ClassId) (cL : ClassId) (cZ : ClassId) (cG : ClassId) (SO : Nat) (PL : Nat) (DR : Nat) (TA : Nat) (RE : Nat) (FL : Nat) (RO : Nat) (HU : Nat) (ME : Nat) (TR : Nat) (NI : Nat) (PL_rooms : Int32) (aPL : Nat → Nat) (PL_doors : Int32) (PL_things : Int32) (FO : Nat) (PL_draw : Int32) (PL_drawTold : Int32) (aME : Nat → Nat) (ME_oldest : Int32) (ME_done : Int32) (ME_undone : Int32) (ME_now : Nat → Int32) (aFL : Nat → Nat) (FL_parting : Int32) (FL_far : Nat → Int32) (b_PL_rooms : zB PL_rooms 0 8) (b_PL_doors : zB PL_doors 0 12) (b_PL_things : zB PL_things 0 6) (b_ME_oldest : zB ME_oldest 0 40) (b_ME_done : zB ME_done 0 40) (b_ME_undone : zB ME_undone 0 40) (s_ME_now_0 : zA ME_now 0 12 0 7) (s_FL_far_0 : zA FL_far 0 64 (-1) 7) : Met l yX11_off wsX11_off ({ frames := 2, cells := 0, slots := 0, locals := 45 }) (xr D [(cI, .int), (cB, .byte), (cL, .long), (cZ, .boolean), (cG, .array .int)] [(SO, .inr (11, oX11 PL DR TA RE FL RO HU ME TR NI)), (PL, .inr (5, oX5 FO aPL PL_rooms PL_doors PL_things PL_draw PL_drawTold)), (ME, .inr (3, oX3 FL aME ME_oldest ME_done ME_undone)), ((aME 1), .inl (cI, 32, .inl ME_now)), (FL, .inr (0, oX0 PL aFL FL_parting)), ((aFL 2), .inl (cI, 64, .inl FL_far))] [.ref SO]) (vp_Si (fun r => True)) 0 0 (fun _ => False) := by
  refine Met.ofW (cc := cX11_off) (maxL := 3) (ret := (some .int)) (by decide) rfl ?_
  intro p e s m args below meth c s₁ B hml hv
  obtain ⟨rfl, hP, hK⟩ := hv
  have hx := B.exec
  have hb := B.bytes
  have hr := B.returns
  have hts := atoms_spec (ws := wsX11_off) B.pre
  have hown : s.vm.findClass RX11 = some m.cls := findClass_of_methodNamed B.named
  have hlocks := B.notSynchronized
  clear B
  have hl := lv_entry ([.ref SO]) (n := 3) (Nat.le_of_ble_eq_true rfl)
  rw [lg_entry_eq]
  generalize (lg_sl ([.ref SO]) ++ List.replicate (3 - (lg_sl ([.ref SO])).length) Slot.unset).toArray = ls at hl ⊢
  replace hl : lv_has ls 3 [(0, .ref SO)] := hl
  refine zz_abs (R := ({ frames := 2, cells := 0, slots := 0, locals := 45 } : Room)) (fun Q up => ?_)
  refine lv_iconst (v := 0) hx hb dX11_off_0 (by decide) ?_
  refine lv_istore_n (lv' := [(1, .int 0), (0, .ref SO)]) hx hb dX11_off_1 rfl hl (by decide) rfl (fun ls hl => ?_)
  refine lv_iconst (v := 0) hx hb dX11_off_2 (by decide) ?_
  have j4 : ∀ (n4 : Nat) (ls : Array Slot) (v4_2 : Int32) (v4_1 : Int32), zB v4_2 0 6 → zA ME_now 0 12 0 7 → zA FL_far 0 64 (-1) 7 → (6 + 1 - v4_2.toInt) ≤ (n4 : Int) → lv_has ls 3 [(2, .int v4_2), (1, .int v4_1), (0, .ref SO)] → W p l e ({ frames := 2, cells := 0, slots := 0, locals := 45 } : Room) s m ([.ref SO] : List Value).toArray below meth c s.heap [] 0 0 Q (F0 m 4 ls []) := by
    intro n4
    induction n4 with
    | zero => intro ls v4_2 v4_1 bv4_2_k4 sME_now_0_k4 sFL_far_0_k4 hm4 hl; exact zM_u0 bv4_2_k4 hm4
    | succ n4 ih4 =>
      intro ls v4_2 v4_1 bv4_2_k4 sME_now_0_k4 sFL_far_0_k4 hm4 hl
      refine lv_iload_n hx hb dX11_off_4 rfl (lv_at hl 0 rfl) ?_
      refine lv_aload_n hx hb dX11_off_5 rfl (lv_at hl 2 rfl) ?_
      refine va_get (D := D) (ci := 11) (v := .ref PL) (C := RX11) (T := TX11) (N := 10) hx hb hts iw_X11_off_X11 hown hK hP 0 rfl rfl 0 (by decide) (hts (.fieldLink RX11 10 "SoldHouse" "plan" "LSoldHouse$Plan;") (List.mem_of_getElem? (i := 1) rfl)) (fun _ h9 => h9) rfl dX11_off_6 ?_
      refine va_get (D := D) (ci := 5) (v := .int PL_things) (C := RX5) (T := TX5) (N := 16) hx hb hts iw_X11_off_X5 hown hK hP 1 rfl rfl 6 (by decide) (hts (.fieldLink RX11 253 "SoldHouse$Plan" "things" "I") (List.mem_of_getElem? (i := 2) rfl)) (fun _ h9 => h9) rfl dX11_off_9 ?_
      refine lv_icmp_ge (tgt := 39) hx hb dX11_off_12 (by decide) (fun c12 => ?_) (fun c12 => ?_)
      · refine lv_iload_n hx hb dX11_off_39 rfl (lv_at hl 1 rfl) ?_
        exact up _ _ _ (W.iret (v := v4_1) hx hb hr (fun t ht hW => ⟨v4_1, rfl, trivial, ht⟩) (fun q hq => by cases hq) dX11_off_40)
      · have bx12f_v4_2 : zB v4_2 0 5 := zB_ltu (zf c12) bv4_2_k4 b_PL_things (by decide)
        have by12f_PL_things : zB PL_things 1 6 := zB_ltv (zf c12) bx12f_v4_2 b_PL_things (by decide)
        refine lv_iload_n hx hb dX11_off_15 rfl (lv_at hl 1 rfl) ?_
        refine lv_aload_n hx hb dX11_off_16 rfl (lv_at hl 2 rfl) ?_
        refine va_get (D := D) (ci := 11) (v := .ref ME) (C := RX11) (T := TX11) (N := 10) hx hb hts iw_X11_off_X11 hown hK hP 0 rfl rfl 7 (by decide) (hts (.fieldLink RX11 63 "SoldHouse" "memory" "LSoldHouse$Memory;") (List.mem_of_getElem? (i := 3) rfl)) (fun _ h9 => h9) rfl dX11_off_17 ?_
        refine lv_aload_n hx hb dX11_off_20 rfl (lv_at hl 2 rfl) ?_
        refine va_get (D := D) (ci := 11) (v := .ref ME) (C := RX11) (T := TX11) (N := 10) hx hb hts iw_X11_off_X11 hown hK hP 0 rfl rfl 7 (by decide) (hts (.fieldLink RX11 63 "SoldHouse" "memory" "LSoldHouse$Memory;") (List.mem_of_getElem? (i := 3) rfl)) (fun _ h9 => h9) rfl dX11_off_21 ?_
        refine va_get (D := D) (ci := 3) (v := .ref (aME 1)) (C := RX3) (T := TX3) (N := 9) hx hb hts iw_X11_off_X3 hown hK hP 2 rfl rfl 1 (by decide) (hts (.fieldLink RX11 128 "SoldHouse$Memory" "now" "[I") (List.mem_of_getElem? (i := 4) rfl)) (fun _ h9 => h9) rfl dX11_off_24 ?_
        refine lv_iload_n hx hb dX11_off_27 rfl (lv_at hl 0 rfl) ?_
        have hPc := hP.sub (ws' := [((aME 1), .inl (cI, 32, .inl ME_now)), (ME, .inr (3, oX3 FL aME ME_oldest ME_done ME_undone)), (FL, .inr (0, oX0 PL aFL FL_parting)), ((aFL 2), .inl (cI, 64, .inl FL_far))]) [3, 2, 4, 5] rfl
        refine vp_callSi (va_runV (As := [.ref (aME 1), .int v4_2]) (rest := [.int v4_1]) ⟨hx, hb, hml, hown, hts⟩ (c_X3_farOff l D cI cB cL cZ cG ME (aME 1) ME_now v4_2 FL aME ME_oldest ME_done ME_undone PL aFL FL_parting FL_far bx12f_v4_2 b_ME_oldest b_ME_done b_ME_undone sME_now_0_k4 sFL_far_0_k4) (cwV 2 hts gX11_off_X3_farOff rfl rfl rfl (by decide +kernel) ⟨Nat.le_of_ble_eq_true rfl, Nat.le_of_ble_eq_true rfl⟩) ⟨xr_blind, va_recv hK hP (ci := 3) (q0 := 2) rfl rfl, fun U hU hW => xr_mk hU hW hPc hK⟩ rfl rfl hl.1 rfl (lv_room (Nat.le_of_ble_eq_true rfl)) dX11_off_28 ⟨Nat.le_of_ble_eq_true rfl, Nat.le_of_ble_eq_true rfl⟩).run (fun r28 hr28 => ?_)
        clear hPc
        refine lv_iadd hx hb dX11_off_31 ?_
        refine lv_topi (fun y31 _ => ?_)
        refine lv_istore_n (lv' := [(1, .int y31), (2, .int v4_2), (0, .ref SO)]) hx hb dX11_off_32 rfl hl (by decide) rfl (fun ls hl => ?_)
        obtain ⟨y33, by33, ry33, ey33⟩ := zi_inc (x := v4_2) (k := 1) (a := 1) (b := 6) bx12f_v4_2 (by decide) (by decide) (by decide) (by decide) (by decide)
        refine lv_iinc (v := y33) (lv' := [(2, .int y33), (1, .int y31), (0, .ref SO)]) hx hb dX11_off_33 hl (k := 1) rfl ey33 (by decide) rfl (fun ls hl => ?_)
        refine lv_goto (tgt := 4) hx hb dX11_off_36 (by decide) ?_
        exact ih4 ls y33 y31 (zB_w by33 (by decide) (by decide)) sME_now_0_k4 sFL_far_0_k4 (zM_us (k := 1) hm4 ry33 (by decide)) (lv_sub hl [0, 1, 2] rfl)
  refine lv_istore_n (lv' := [(2, .int 0), (1, .int 0), (0, .ref SO)]) hx hb dX11_off_3 rfl hl (by decide) rfl (fun ls hl => ?_)
  exact j4 7 ls 0 0 (zB_w (show zB 0 0 0 from ⟨by decide, by decide⟩) (by decide) (by decide)) s_ME_now_0 s_FL_far_0 (zM_ui (show zB 0 0 0 from ⟨by decide, by decide⟩) (by decide)) (lv_sub hl [0, 1, 2] rfl)
set_option maxHeartbeats 4000000 in
set_option maxRecDepth 100000 in
theorem c_X11_right (l : Launch) (D : va_G) (cI : ClassId) (cB : ClassId) (cL : ClassId) (cZ : ClassId) (cG : ClassId) (SO : Nat) (PL : Nat) (DR : Nat) (TA : Nat) (RE : Nat) (FL : Nat) (RO : Nat) (HU : Nat) (ME : Nat) (TR : Nat) (NI : Nat) (aME : Nat → Nat) (ME_oldest : Int32) (ME_done : Int32) (ME_undone : Int32) (ME_now : Nat → Int32) (aFL : Nat → Nat) (FL_parting : Int32) (PL_rooms : Int32) (aPL : Nat → Nat) (PL_doors : Int32) (PL_things : Int32) (FO : Nat) (PL_draw : Int32) (PL_drawTold : Int32) (b_ME_oldest : zB ME_oldest 0 40) (b_ME_done : zB ME_done 0 40) (b_ME_undone : zB ME_undone 0 40) (b_PL_rooms : zB PL_rooms 0 8) (b_PL_doors : zB PL_doors 0 12) (b_PL_things : zB PL_things 0 6) (s_ME_now_0 : zA ME_now 0 12 0 7) : Met l yX11_right wsX11_right ({ frames := 2, cells := 0, slots := 0, locals := 45 }) (xr D [(cI, .int), (cB, .byte), (cL, .long), (cZ, .boolean), (cG, .array .int)] [(SO, .inr (11, oX11 PL DR TA RE FL RO HU ME TR NI)), (ME, .inr (3, oX3 FL aME ME_oldest ME_done ME_undone)), ((aME 1), .inl (cI, 32, .inl ME_now)), (FL, .inr (0, oX0 PL aFL FL_parting)), (PL, .inr (5, oX5 FO aPL PL_rooms PL_doors PL_things PL_draw PL_drawTold))] [.ref SO]) (vp_Si (fun r => zB r 0 63)) 0 0 (fun _ => False) := by
  refine Met.ofW (cc := cX11_right) (maxL := 1) (ret := (some .int)) (by decide) rfl ?_
  intro p e s m args below meth c s₁ B hml hv
  obtain ⟨rfl, hP, hK⟩ := hv
  have hx := B.exec
  have hb := B.bytes
  have hr := B.returns
  have hts := atoms_spec (ws := wsX11_right) B.pre
  have hown : s.vm.findClass RX11 = some m.cls := findClass_of_methodNamed B.named
  have hlocks := B.notSynchronized
  clear B
  have hl := lv_entry ([.ref SO]) (n := 1) (Nat.le_of_ble_eq_true rfl)
  rw [lg_entry_eq]
  generalize (lg_sl ([.ref SO]) ++ List.replicate (1 - (lg_sl ([.ref SO])).length) Slot.unset).toArray = ls at hl ⊢
  replace hl : lv_has ls 1 [(0, .ref SO)] := hl
  refine lv_aload_n hx hb dX11_right_0 rfl (lv_at hl 0 rfl) ?_
  refine va_get (D := D) (ci := 11) (v := .ref ME) (C := RX11) (T := TX11) (N := 10) hx hb hts iw_X11_right_X11 hown hK hP 0 rfl rfl 7 (by decide) (hts (.fieldLink RX11 63 "SoldHouse" "memory" "LSoldHouse$Memory;") (List.mem_of_getElem? (i := 1) rfl)) (fun _ h9 => h9) rfl dX11_right_1 ?_
  refine lv_aload_n hx hb dX11_right_4 rfl (lv_at hl 0 rfl) ?_
  refine va_get (D := D) (ci := 11) (v := .ref ME) (C := RX11) (T := TX11) (N := 10) hx hb hts iw_X11_right_X11 hown hK hP 0 rfl rfl 7 (by decide) (hts (.fieldLink RX11 63 "SoldHouse" "memory" "LSoldHouse$Memory;") (List.mem_of_getElem? (i := 1) rfl)) (fun _ h9 => h9) rfl dX11_right_5 ?_
  refine va_get (D := D) (ci := 3) (v := .ref (aME 1)) (C := RX3) (T := TX3) (N := 9) hx hb hts iw_X11_right_X3 hown hK hP 1 rfl rfl 1 (by decide) (hts (.fieldLink RX11 128 "SoldHouse$Memory" "now" "[I") (List.mem_of_getElem? (i := 2) rfl)) (fun _ h9 => h9) rfl dX11_right_8 ?_
  have hPc := hP.sub (ws' := [((aME 1), .inl (cI, 32, .inl ME_now)), (ME, .inr (3, oX3 FL aME ME_oldest ME_done ME_undone)), (FL, .inr (0, oX0 PL aFL FL_parting)), (PL, .inr (5, oX5 FO aPL PL_rooms PL_doors PL_things PL_draw PL_drawTold))]) [2, 1, 3, 4] rfl
  refine vp_callSi (va_runV (As := [.ref (aME 1)]) (rest := []) ⟨hx, hb, hml, hown, hts⟩ (c_X3_rightThings l D cI cB cL cZ cG ME (aME 1) ME_now FL aME ME_oldest ME_done ME_undone PL aFL FL_parting PL_rooms aPL PL_doors PL_things FO PL_draw PL_drawTold b_ME_oldest b_ME_done b_ME_undone b_PL_rooms b_PL_doors b_PL_things s_ME_now_0) (cwV 1 hts gX11_right_X3_rightThings rfl rfl rfl (by decide +kernel) ⟨Nat.le_of_ble_eq_true rfl, Nat.le_of_ble_eq_true rfl⟩) ⟨xr_blind, va_recv hK hP (ci := 3) (q0 := 1) rfl rfl, fun U hU hW => xr_mk hU hW hPc hK⟩ rfl rfl hl.1 rfl (lv_room (Nat.le_of_ble_eq_true rfl)) dX11_right_11 ⟨Nat.le_of_ble_eq_true rfl, Nat.le_of_ble_eq_true rfl⟩).run (fun r11 hr11 => ?_)
  clear hPc
  exact W.iret (v := r11) hx hb hr (fun t ht hW => ⟨r11, rfl, hr11, ht⟩) (fun q hq => by cases hq) dX11_right_14
set_option maxHeartbeats 4000000 in
set_option maxRecDepth 100000 in
theorem c_X11_deep (l : Launch) (D : va_G) (cI : ClassId) (cB : ClassId) (cL : ClassId) (cZ : ClassId) (cG : ClassId) (SO : Nat) (x0 : Int32) (PL : Nat) (DR : Nat) (TA : Nat) (RE : Nat) (FL : Nat) (RO : Nat) (HU : Nat) (ME : Nat) (TR : Nat) (NI : Nat) (PL_rooms : Int32) (aPL : Nat → Nat) (PL_doors : Int32) (PL_things : Int32) (FO : Nat) (PL_draw : Int32) (PL_drawTold : Int32) (aME : Nat → Nat) (ME_oldest : Int32) (ME_done : Int32) (ME_undone : Int32) (ME_now : Nat → Int32) (b_PL_rooms : zB PL_rooms 0 8) (b_PL_doors : zB PL_doors 0 12) (b_PL_things : zB PL_things 0 6) (b_ME_oldest : zB ME_oldest 0 40) (b_ME_done : zB ME_done 0 40) (b_ME_undone : zB ME_undone 0 40) (s_ME_now_0 : zA ME_now 0 12 0 7) : Met l yX11_deep wsX11_deep ({ frames := 0, cells := 0, slots := 0, locals := 0 }) (xr D [(cI, .int), (cB, .byte), (cL, .long), (cZ, .boolean), (cG, .array .int)] [(SO, .inr (11, oX11 PL DR TA RE FL RO HU ME TR NI)), (PL, .inr (5, oX5 FO aPL PL_rooms PL_doors PL_things PL_draw PL_drawTold)), (ME, .inr (3, oX3 FL aME ME_oldest ME_done ME_undone)), ((aME 1), .inl (cI, 32, .inl ME_now))] [.ref SO, .int x0]) (vp_Si (fun r => zB r (-1) 63)) 0 0 (fun _ => False) := by
  refine Met.ofW (cc := cX11_deep) (maxL := 4) (ret := (some .int)) (by decide) rfl ?_
  intro p e s m args below meth c s₁ B hml hv
  obtain ⟨rfl, hP, hK⟩ := hv
  have hx := B.exec
  have hb := B.bytes
  have hr := B.returns
  have hts := atoms_spec (ws := wsX11_deep) B.pre
  have hown : s.vm.findClass RX11 = some m.cls := findClass_of_methodNamed B.named
  have hlocks := B.notSynchronized
  clear B
  have hl := lv_entry ([.ref SO, .int x0]) (n := 4) (Nat.le_of_ble_eq_true rfl)
  rw [lg_entry_eq]
  generalize (lg_sl ([.ref SO, .int x0]) ++ List.replicate (4 - (lg_sl ([.ref SO, .int x0])).length) Slot.unset).toArray = ls at hl ⊢
  replace hl : lv_has ls 4 [(0, .ref SO), (1, .int x0)] := hl
  refine zz_abs (R := ({ frames := 0, cells := 0, slots := 0, locals := 0 } : Room)) (fun Q up => ?_)
  refine lv_iload_n hx hb dX11_deep_0 rfl (lv_at hl 1 rfl) ?_
  refine lv_if_lt (tgt := 10) hx hb dX11_deep_1 (by decide) (fun c1 => ?_) (fun c1 => ?_)
  · have bx1t_x0 : zB x0 (-2147483648) (-1) := zB_ltu (zl c1) (zB_top x0) (show zB 0 0 0 from ⟨by decide, by decide⟩) (by decide)
    refine lv_iconst (v := (-1)) hx hb dX11_deep_10 (by decide) ?_
    exact up _ _ _ (W.iret (v := (-1)) hx hb hr (fun t ht hW => ⟨(-1), rfl, (zB_w (show zB (-1) (-1) (-1) from ⟨by decide, by decide⟩) (by decide) (by decide)), ht⟩) (fun q hq => by cases hq) dX11_deep_11)
  · have by1f_x0 : zB x0 0 2147483647 := zB_lev (zg c1) (show zB 0 0 0 from ⟨by decide, by decide⟩) (zB_top x0) (by decide)
    refine lv_iload_n hx hb dX11_deep_4 rfl (lv_at hl 1 rfl) ?_
    refine lv_bipush (v := 99) hx hb dX11_deep_5 (by decide) ?_
    refine lv_icmp_le (tgt := 12) hx hb dX11_deep_7 (by decide) (fun c7 => ?_) (fun c7 => ?_)
    · have bx7t_x0 : zB x0 0 99 := zB_leu (ze c7) by1f_x0 (show zB 99 99 99 from ⟨by decide, by decide⟩) (by decide)
      refine lv_iconst (v := 0) hx hb dX11_deep_12 (by decide) ?_
      refine lv_istore_n (lv' := [(2, .int 0), (0, .ref SO), (1, .int x0)]) hx hb dX11_deep_13 rfl hl (by decide) rfl (fun ls hl => ?_)
      refine lv_iconst (v := 0) hx hb dX11_deep_14 (by decide) ?_
      have j16 : ∀ (n16 : Nat) (ls : Array Slot) (v16_3 : Int32) (v16_2 : Int32), zB v16_3 0 6 → zB v16_2 0 63 → zA ME_now 0 12 0 7 → (6 + 1 - v16_3.toInt) ≤ (n16 : Int) → lv_has ls 4 [(3, .int v16_3), (2, .int v16_2), (0, .ref SO), (1, .int x0)] → W p l e ({ frames := 0, cells := 0, slots := 0, locals := 0 } : Room) s m ([.ref SO, .int x0] : List Value).toArray below meth c s.heap [] 0 0 Q (F0 m 16 ls []) := by
        intro n16
        induction n16 with
        | zero => intro ls v16_3 v16_2 bv16_3_k16 bv16_2_k16 sME_now_0_k16 hm16 hl; exact zM_u0 bv16_3_k16 hm16
        | succ n16 ih16 =>
          intro ls v16_3 v16_2 bv16_3_k16 bv16_2_k16 sME_now_0_k16 hm16 hl
          refine lv_iload_n hx hb dX11_deep_16 rfl (lv_at hl 0 rfl) ?_
          refine lv_aload_n hx hb dX11_deep_17 rfl (lv_at hl 2 rfl) ?_
          refine va_get (D := D) (ci := 11) (v := .ref PL) (C := RX11) (T := TX11) (N := 10) hx hb hts iw_X11_deep_X11 hown hK hP 0 rfl rfl 0 (by decide) (hts (.fieldLink RX11 10 "SoldHouse" "plan" "LSoldHouse$Plan;") (List.mem_of_getElem? (i := 1) rfl)) (fun _ h9 => h9) rfl dX11_deep_18 ?_
          refine va_get (D := D) (ci := 5) (v := .int PL_things) (C := RX5) (T := TX5) (N := 16) hx hb hts iw_X11_deep_X5 hown hK hP 1 rfl rfl 6 (by decide) (hts (.fieldLink RX11 253 "SoldHouse$Plan" "things" "I") (List.mem_of_getElem? (i := 2) rfl)) (fun _ h9 => h9) rfl dX11_deep_21 ?_
          refine lv_icmp_ge (tgt := 55) hx hb dX11_deep_24 (by decide) (fun c24 => ?_) (fun c24 => ?_)
          · refine lv_iload_n hx hb dX11_deep_55 rfl (lv_at hl 1 rfl) ?_
            exact up _ _ _ (W.iret (v := v16_2) hx hb hr (fun t ht hW => ⟨v16_2, rfl, (zB_w bv16_2_k16 (by decide) (by decide)), ht⟩) (fun q hq => by cases hq) dX11_deep_56)
          · have bx24f_v16_3 : zB v16_3 0 5 := zB_ltu (zf c24) bv16_3_k16 b_PL_things (by decide)
            have by24f_PL_things : zB PL_things 1 6 := zB_ltv (zf c24) bx24f_v16_3 b_PL_things (by decide)
            refine lv_aload_n hx hb dX11_deep_27 rfl (lv_at hl 2 rfl) ?_
            refine va_get (D := D) (ci := 11) (v := .ref ME) (C := RX11) (T := TX11) (N := 10) hx hb hts iw_X11_deep_X11 hown hK hP 0 rfl rfl 7 (by decide) (hts (.fieldLink RX11 63 "SoldHouse" "memory" "LSoldHouse$Memory;") (List.mem_of_getElem? (i := 3) rfl)) (fun _ h9 => h9) rfl dX11_deep_28 ?_
            refine va_get (D := D) (ci := 3) (v := .ref (aME 1)) (C := RX3) (T := TX3) (N := 9) hx hb hts iw_X11_deep_X3 hown hK hP 2 rfl rfl 1 (by decide) (hts (.fieldLink RX11 128 "SoldHouse$Memory" "now" "[I") (List.mem_of_getElem? (i := 4) rfl)) (fun _ h9 => h9) rfl dX11_deep_31 ?_
            refine lv_bipush (v := 18) hx hb dX11_deep_34 (by decide) ?_
            refine lv_iload_n hx hb dX11_deep_36 rfl (lv_at hl 0 rfl) ?_
            refine lv_iadd hx hb dX11_deep_37 ?_
            refine zi_top (a := 18) (b := 23) (zB_add (show zB 18 18 18 from ⟨by decide, by decide⟩) bx24f_v16_3 (by decide) (by decide) (by decide) (by decide)) (fun y37 by37 => ?_)
            refine va_iald hx hb hK hP 3 0 rfl rfl (zB_in by37 (by decide) (by decide)) dX11_deep_38 ?_
            refine lv_topi (fun y38 _ => ?_)
            refine lv_iload_n hx hb dX11_deep_39 rfl (lv_at hl 3 rfl) ?_
            have j49 : ∀ (ls : Array Slot) (v49_2 : Int32), zB v49_2 0 63 → zA ME_now 0 12 0 7 → lv_has ls 4 [(3, .int v16_3), (2, .int v49_2), (0, .ref SO), (1, .int x0)] → W p l e ({ frames := 0, cells := 0, slots := 0, locals := 0 } : Room) s m ([.ref SO, .int x0] : List Value).toArray below meth c s.heap [] 0 0 Q (F0 m 49 ls []) := by
              intro ls v49_2 bv49_2_k49 sME_now_0_k49 hl
              obtain ⟨y49, by49, ry49, ey49⟩ := zi_inc (x := v16_3) (k := 1) (a := 1) (b := 6) bx24f_v16_3 (by decide) (by decide) (by decide) (by decide) (by decide)
              refine lv_iinc (v := y49) (lv' := [(3, .int y49), (2, .int v49_2), (0, .ref SO), (1, .int x0)]) hx hb dX11_deep_49 hl (k := 0) rfl ey49 (by decide) rfl (fun ls hl => ?_)
              refine lv_goto (tgt := 16) hx hb dX11_deep_52 (by decide) ?_
              exact ih16 ls y49 v49_2 (zB_w by49 (by decide) (by decide)) bv49_2_k49 sME_now_0_k49 (zM_us (k := 1) hm16 ry49 (by decide)) (lv_sub hl [0, 1, 2, 3] rfl)
            refine lv_icmp_lt (tgt := 49) hx hb dX11_deep_40 (by decide) (fun c40 => ?_) (fun c40 => ?_)
            · have bx40t_y38 : zB y38 (-2147483648) 98 := zB_ltu (zl c40) (zB_top y38) bx7t_x0 (by decide)
              exact j49 ls v16_2 bv16_2_k16 sME_now_0_k16 (lv_sub hl [0, 1, 2, 3] rfl)
            · have by40f_y38 : zB y38 0 2147483647 := zB_lev (zg c40) bx7t_x0 (zB_top y38) (by decide)
              refine lv_iload_n hx hb dX11_deep_43 rfl (lv_at hl 1 rfl) ?_
              refine lv_iconst (v := 1) hx hb dX11_deep_44 (by decide) ?_
              refine lv_iload_n hx hb dX11_deep_45 rfl (lv_at hl 0 rfl) ?_
              refine lv_ishl hx hb dX11_deep_46 ?_
              refine zi_top (a := 1) (b := 32) (zB_shl1 bx24f_v16_3 (by decide) (by decide) (by decide) (by decide)) (fun y46 by46 => ?_)
              refine lv_ior hx hb dX11_deep_47 ?_
              refine zi_top (a := 1) (b := 63) (zB_or 6 bv16_2_k16 by46 (by decide) (by decide) (by decide) (by decide) (by decide) (by decide) (by decide)) (fun y47 by47 => ?_)
              refine lv_istore_n (lv' := [(2, .int y47), (3, .int v16_3), (0, .ref SO), (1, .int x0)]) hx hb dX11_deep_48 rfl hl (by decide) rfl (fun ls hl => ?_)
              exact j49 ls y47 (zB_w by47 (by decide) (by decide)) sME_now_0_k16 (lv_sub hl [1, 0, 2, 3] rfl)
      refine lv_istore_n (lv' := [(3, .int 0), (2, .int 0), (0, .ref SO), (1, .int x0)]) hx hb dX11_deep_15 rfl hl (by decide) rfl (fun ls hl => ?_)
      exact j16 7 ls 0 0 (zB_w (show zB 0 0 0 from ⟨by decide, by decide⟩) (by decide) (by decide)) (zB_w (show zB 0 0 0 from ⟨by decide, by decide⟩) (by decide) (by decide)) s_ME_now_0 (zM_ui (show zB 0 0 0 from ⟨by decide, by decide⟩) (by decide)) (lv_sub hl [0, 1, 2, 3] rfl)
    · have by7f_x0 : zB x0 100 2147483647 := zB_ltv (zf c7) (show zB 99 99 99 from ⟨by decide, by decide⟩) by1f_x0 (by decide)
      refine lv_iconst (v := (-1)) hx hb dX11_deep_10 (by decide) ?_
      exact up _ _ _ (W.iret (v := (-1)) hx hb hr (fun t ht hW => ⟨(-1), rfl, (zB_w (show zB (-1) (-1) (-1) from ⟨by decide, by decide⟩) (by decide) (by decide)), ht⟩) (fun q hq => by cases hq) dX11_deep_11)
set_option maxHeartbeats 4000000 in
set_option maxRecDepth 100000 in
theorem c_X11_stay (l : Launch) (D : va_G) (cI : ClassId) (cB : ClassId) (cL : ClassId) (cZ : ClassId) (cG : ClassId) (SO : Nat) (x0 : Int32) (x1 : Int32) (x2 : Int32) (PL : Nat) (DR : Nat) (TA : Nat) (RE : Nat) (FL : Nat) (RO : Nat) (HU : Nat) (ME : Nat) (TR : Nat) (NI : Nat) (PL_rooms : Int32) (aPL : Nat → Nat) (PL_doors : Int32) (PL_things : Int32) (FO : Nat) (PL_draw : Int32) (PL_drawTold : Int32) (aME : Nat → Nat) (ME_oldest : Int32) (ME_done : Int32) (ME_undone : Int32) (ME_now : Nat → Int32) (aFL : Nat → Nat) (FL_parting : Int32) (aFO : Nat → Nat) (FO_size : Int32) (FO_units : Int32) (FO_told : Int32) (PL_us : Nat → Int32) (PL_them : Nat → Int32) (FL_far : Nat → Int32) (FO_known : Nat → Int32) (FO_steps : Nat → Int32) (FO_stack : Nat → Int32) (sz : Nat) (b_PL_rooms : zB PL_rooms 0 8) (b_PL_doors : zB PL_doors 0 12) (b_PL_things : zB PL_things 0 6) (b_ME_oldest : zB ME_oldest 0 40) (b_ME_done : zB ME_done 0 40) (b_ME_undone : zB ME_undone 0 40) (b_FO_size : zB FO_size 0 400) (s_ME_now_0 : zA ME_now 0 12 0 7) (s_FL_far_0 : zA FL_far 0 64 (-1) 7) : Met l yX11_stay wsX11_stay ({ frames := 4, cells := 0, slots := 0, locals := 95 }) (xp D [(cI, .int), (cB, .byte), (cL, .long), (cZ, .boolean), (cG, .array .int)] [(SO, .inr (11, oX11 PL DR TA RE FL RO HU ME TR NI)), (PL, .inr (5, oX5 FO aPL PL_rooms PL_doors PL_things PL_draw PL_drawTold)), (ME, .inr (3, oX3 FL aME ME_oldest ME_done ME_undone)), ((aME 1), .inl (cI, 32, .inl ME_now)), (FL, .inr (0, oX0 PL aFL FL_parting)), (FO, .inr (1, oX1 aFO FO_size FO_units FO_told)), ((aPL 11), .inl (cI, 6, .inl PL_us)), ((aPL 12), .inl (cI, 6, .inl PL_them)), ((aFL 2), .inl (cI, 64, .inl FL_far)), ((aFO 2), .inl (cI, 5, .inl FO_known)), ((aFO 0), .inl (cI, 400, .inl FO_steps)), ((aFO 1), .inl (cI, 61, .inl FO_stack))] sz [] [.ref SO, .int x0, .int x1, .int x2]) (va_Qi (fun (r : Int32) (_ : Unit) => True) (fun (_ : Unit) (t : State) => ∃ (nFOknown : Nat → Int32), ∃ (nFOstack : Nat → Int32), xB D (va_A [(SO, .inr (11, oX11 PL DR TA RE FL RO HU ME TR NI)), (PL, .inr (5, oX5 FO aPL PL_rooms PL_doors PL_things PL_draw PL_drawTold)), (ME, .inr (3, oX3 FL aME ME_oldest ME_done ME_undone)), ((aME 1), .inl (cI, 32, .inl ME_now)), (FL, .inr (0, oX0 PL aFL FL_parting)), (FO, .inr (1, oX1 aFO FO_size FO_units FO_told)), ((aPL 11), .inl (cI, 6, .inl PL_us)), ((aPL 12), .inl (cI, 6, .inl PL_them)), ((aFL 2), .inl (cI, 64, .inl FL_far)), ((aFO 2), .inl (cI, 5, .inl FO_known)), ((aFO 0), .inl (cI, 400, .inl FO_steps)), ((aFO 1), .inl (cI, 61, .inl FO_stack))] sz) [(SO, .inr (11, oX11 PL DR TA RE FL RO HU ME TR NI)), (PL, .inr (5, oX5 FO aPL PL_rooms PL_doors PL_things PL_draw PL_drawTold)), (ME, .inr (3, oX3 FL aME ME_oldest ME_done ME_undone)), ((aME 1), .inl (cI, 32, .inl ME_now)), (FL, .inr (0, oX0 PL aFL FL_parting)), (FO, .inr (1, oX1 aFO FO_size FO_units FO_told)), ((aPL 11), .inl (cI, 6, .inl PL_us)), ((aPL 12), .inl (cI, 6, .inl PL_them)), ((aFL 2), .inl (cI, 64, .inl FL_far)), ((aFO 2), .inl (cI, 5, .inl nFOknown)), ((aFO 0), .inl (cI, 400, .inl FO_steps)), ((aFO 1), .inl (cI, 61, .inl nFOstack))] t) (va_A [(SO, .inr (11, oX11 PL DR TA RE FL RO HU ME TR NI)), (PL, .inr (5, oX5 FO aPL PL_rooms PL_doors PL_things PL_draw PL_drawTold)), (ME, .inr (3, oX3 FL aME ME_oldest ME_done ME_undone)), ((aME 1), .inl (cI, 32, .inl ME_now)), (FL, .inr (0, oX0 PL aFL FL_parting)), (FO, .inr (1, oX1 aFO FO_size FO_units FO_told)), ((aPL 11), .inl (cI, 6, .inl PL_us)), ((aPL 12), .inl (cI, 6, .inl PL_them)), ((aFL 2), .inl (cI, 64, .inl FL_far)), ((aFO 2), .inl (cI, 5, .inl FO_known)), ((aFO 0), .inl (cI, 400, .inl FO_steps)), ((aFO 1), .inl (cI, 61, .inl FO_stack))] sz)) 0 0 (va_A [(SO, .inr (11, oX11 PL DR TA RE FL RO HU ME TR NI)), (PL, .inr (5, oX5 FO aPL PL_rooms PL_doors PL_things PL_draw PL_drawTold)), (ME, .inr (3, oX3 FL aME ME_oldest ME_done ME_undone)), ((aME 1), .inl (cI, 32, .inl ME_now)), (FL, .inr (0, oX0 PL aFL FL_parting)), (FO, .inr (1, oX1 aFO FO_size FO_units FO_told)), ((aPL 11), .inl (cI, 6, .inl PL_us)), ((aPL 12), .inl (cI, 6, .inl PL_them)), ((aFL 2), .inl (cI, 64, .inl FL_far)), ((aFO 2), .inl (cI, 5, .inl FO_known)), ((aFO 0), .inl (cI, 400, .inl FO_steps)), ((aFO 1), .inl (cI, 61, .inl FO_stack))] sz) := by
  refine Met.ofW (cc := cX11_stay) (maxL := 4) (ret := (some .int)) (by decide) rfl ?_
  intro p e s m args below meth c s₁ B hml hv
  obtain ⟨rfl, hsz, hP, hK, hD0, hNw⟩ := hv
  have hx := B.exec
  have hb := B.bytes
  have hr := B.returns
  have hts := atoms_spec (ws := wsX11_stay) B.pre
  have hown : s.vm.findClass RX11 = some m.cls := findClass_of_methodNamed B.named
  have hlocks := B.notSynchronized
  clear B
  subst hsz
  have hD := hD0.self (sz := s.heap.size)
  clear hD0 hNw
  generalize hAe : va_A [(SO, .inr (11, oX11 PL DR TA RE FL RO HU ME TR NI)), (PL, .inr (5, oX5 FO aPL PL_rooms PL_doors PL_things PL_draw PL_drawTold)), (ME, .inr (3, oX3 FL aME ME_oldest ME_done ME_undone)), ((aME 1), .inl (cI, 32, .inl ME_now)), (FL, .inr (0, oX0 PL aFL FL_parting)), (FO, .inr (1, oX1 aFO FO_size FO_units FO_told)), ((aPL 11), .inl (cI, 6, .inl PL_us)), ((aPL 12), .inl (cI, 6, .inl PL_them)), ((aFL 2), .inl (cI, 64, .inl FL_far)), ((aFO 2), .inl (cI, 5, .inl FO_known)), ((aFO 0), .inl (cI, 400, .inl FO_steps)), ((aFO 1), .inl (cI, 61, .inl FO_stack))] s.heap.size = A at hD ⊢
  have hA : ∀ q : Nat, s.heap.size ≤ q → A q := fun q h => by rw [← hAe]; exact Or.inr h
  have hS : va_S A s.heap s.heap [] := va_S.rf
  clear hAe
  obtain ⟨H, hH⟩ : ∃ H : Heap, H = s.heap := ⟨_, rfl⟩
  obtain ⟨locs, hlocs⟩ : ∃ L : List Loc, L = [] := ⟨_, rfl⟩
  replace hP : va_P D classes [(SO, .inr (11, oX11 PL DR TA RE FL RO HU ME TR NI)), (PL, .inr (5, oX5 FO aPL PL_rooms PL_doors PL_things PL_draw PL_drawTold)), (ME, .inr (3, oX3 FL aME ME_oldest ME_done ME_undone)), ((aME 1), .inl (cI, 32, .inl ME_now)), (FL, .inr (0, oX0 PL aFL FL_parting)), (FO, .inr (1, oX1 aFO FO_size FO_units FO_told)), ((aPL 11), .inl (cI, 6, .inl PL_us)), ((aPL 12), .inl (cI, 6, .inl PL_them)), ((aFL 2), .inl (cI, 64, .inl FL_far)), ((aFO 2), .inl (cI, 5, .inl FO_known)), ((aFO 0), .inl (cI, 400, .inl FO_steps)), ((aFO 1), .inl (cI, 61, .inl FO_stack))] H := by rw [hH]; exact hP
  replace hS : va_S A s.heap H locs := by rw [hH, hlocs]; exact hS
  rw [← hH, ← hlocs]
  clear hlocs hH
  have hl := lv_entry ([.ref SO, .int x0, .int x1, .int x2]) (n := 4) (Nat.le_of_ble_eq_true rfl)
  rw [lg_entry_eq]
  generalize (lg_sl ([.ref SO, .int x0, .int x1, .int x2]) ++ List.replicate (4 - (lg_sl ([.ref SO, .int x0, .int x1, .int x2])).length) Slot.unset).toArray = ls at hl ⊢
  replace hl : lv_has ls 4 [(0, .ref SO), (1, .int x0), (2, .int x1), (3, .int x2)] := hl
  refine lv_aload_n hx hb dX11_stay_0 rfl (lv_at hl 0 rfl) ?_
  refine lv_iload_n hx hb dX11_stay_1 rfl (lv_at hl 1 rfl) ?_
  have hPc := hP.sub (ws' := [(SO, .inr (11, oX11 PL DR TA RE FL RO HU ME TR NI)), (PL, .inr (5, oX5 FO aPL PL_rooms PL_doors PL_things PL_draw PL_drawTold))]) [0, 1] rfl
  refine vp_callSi (va_runV (As := [.int x0]) (rest := []) ⟨hx, hb, hml, hown, hts⟩ (c_X11_isThing l D cI cB cL cZ cG SO x0 PL DR TA RE FL RO HU ME TR NI PL_rooms aPL PL_doors PL_things FO PL_draw PL_drawTold b_PL_rooms b_PL_doors b_PL_things) (cwV 1 hts gX11_stay_X11_isThing rfl rfl rfl (by decide +kernel) ⟨Nat.le_of_ble_eq_true rfl, Nat.le_of_ble_eq_true rfl⟩) ⟨xr_blind, va_recv hK hP (ci := 11) (q0 := 0) rfl rfl, fun U hU hW => xr_mk hU hW hPc hK⟩ rfl rfl hl.1 rfl (lv_room (Nat.le_of_ble_eq_true rfl)) dX11_stay_2 ⟨Nat.le_of_ble_eq_true rfl, Nat.le_of_ble_eq_true rfl⟩).run (fun r2 hr2 => ?_)
  clear hPc
  rcases hr2 with rfl | ⟨rfl, hr2_1_0⟩
  · refine lv_if_eq (tgt := 26) hx hb dX11_stay_5 (by decide) (fun _ => ?_) (fun c5 => absurd (by decide) c5)
    refine lv_iconst (v := (-1)) hx hb dX11_stay_26 (by decide) ?_
    exact W.iret (v := (-1)) hx hb hr (fun t ht hW => ⟨⟨(-1), (), rfl, trivial, ⟨FO_known, FO_stack, by rw [ht]; exact hP, hD⟩⟩, hS.F ht⟩) hS.2.2 dX11_stay_27
  · refine lv_if_eq (tgt := 26) hx hb dX11_stay_5 (by decide) (fun c5 => absurd c5 (by decide)) (fun _ => ?_)
    refine lv_iload_n hx hb dX11_stay_8 rfl (lv_at hl 2 rfl) ?_
    refine lv_if_lt (tgt := 26) hx hb dX11_stay_9 (by decide) (fun c9 => ?_) (fun c9 => ?_)
    · have bx9t_x1 : zB x1 (-2147483648) (-1) := zB_ltu (zl c9) (zB_top x1) (show zB 0 0 0 from ⟨by decide, by decide⟩) (by decide)
      refine lv_iconst (v := (-1)) hx hb dX11_stay_26 (by decide) ?_
      exact W.iret (v := (-1)) hx hb hr (fun t ht hW => ⟨⟨(-1), (), rfl, trivial, ⟨FO_known, FO_stack, by rw [ht]; exact hP, hD⟩⟩, hS.F ht⟩) hS.2.2 dX11_stay_27
    · have by9f_x1 : zB x1 0 2147483647 := zB_lev (zg c9) (show zB 0 0 0 from ⟨by decide, by decide⟩) (zB_top x1) (by decide)
      refine lv_iload_n hx hb dX11_stay_12 rfl (lv_at hl 2 rfl) ?_
      refine lv_iconst (v := 4) hx hb dX11_stay_13 (by decide) ?_
      refine lv_icmp_gt (tgt := 26) hx hb dX11_stay_14 (by decide) (fun c14 => ?_) (fun c14 => ?_)
      · have by14t_x1 : zB x1 5 2147483647 := zB_ltv (zl c14) (show zB 4 4 4 from ⟨by decide, by decide⟩) by9f_x1 (by decide)
        refine lv_iconst (v := (-1)) hx hb dX11_stay_26 (by decide) ?_
        exact W.iret (v := (-1)) hx hb hr (fun t ht hW => ⟨⟨(-1), (), rfl, trivial, ⟨FO_known, FO_stack, by rw [ht]; exact hP, hD⟩⟩, hS.F ht⟩) hS.2.2 dX11_stay_27
      · have bx14f_x1 : zB x1 0 4 := zB_leu (zg c14) by9f_x1 (show zB 4 4 4 from ⟨by decide, by decide⟩) (by decide)
        refine lv_iload_n hx hb dX11_stay_17 rfl (lv_at hl 3 rfl) ?_
        refine lv_if_lt (tgt := 26) hx hb dX11_stay_18 (by decide) (fun c18 => ?_) (fun c18 => ?_)
        · have bx18t_x2 : zB x2 (-2147483648) (-1) := zB_ltu (zl c18) (zB_top x2) (show zB 0 0 0 from ⟨by decide, by decide⟩) (by decide)
          refine lv_iconst (v := (-1)) hx hb dX11_stay_26 (by decide) ?_
          exact W.iret (v := (-1)) hx hb hr (fun t ht hW => ⟨⟨(-1), (), rfl, trivial, ⟨FO_known, FO_stack, by rw [ht]; exact hP, hD⟩⟩, hS.F ht⟩) hS.2.2 dX11_stay_27
        · have by18f_x2 : zB x2 0 2147483647 := zB_lev (zg c18) (show zB 0 0 0 from ⟨by decide, by decide⟩) (zB_top x2) (by decide)
          refine lv_iload_n hx hb dX11_stay_21 rfl (lv_at hl 3 rfl) ?_
          refine lv_iconst (v := 1) hx hb dX11_stay_22 (by decide) ?_
          refine lv_icmp_le (tgt := 28) hx hb dX11_stay_23 (by decide) (fun c23 => ?_) (fun c23 => ?_)
          · have bx23t_x2 : zB x2 0 1 := zB_leu (ze c23) by18f_x2 (show zB 1 1 1 from ⟨by decide, by decide⟩) (by decide)
            refine lv_aload_n hx hb dX11_stay_28 rfl (lv_at hl 0 rfl) ?_
            refine va_get (D := D) (ci := 11) (v := .ref ME) (C := RX11) (T := TX11) (N := 10) hx hb hts iw_X11_stay_X11 hown hK hP 0 rfl rfl 7 (by decide) (hts (.fieldLink RX11 63 "SoldHouse" "memory" "LSoldHouse$Memory;") (List.mem_of_getElem? (i := 1) rfl)) (fun _ h9 => h9) rfl dX11_stay_29 ?_
            refine lv_iload_n hx hb dX11_stay_32 rfl (lv_at hl 1 rfl) ?_
            refine lv_iload_n hx hb dX11_stay_33 rfl (lv_at hl 2 rfl) ?_
            refine lv_iload_n hx hb dX11_stay_34 rfl (lv_at hl 3 rfl) ?_
            have hPc := hP.sub (ws' := [(ME, .inr (3, oX3 FL aME ME_oldest ME_done ME_undone)), ((aME 1), .inl (cI, 32, .inl ME_now)), (FL, .inr (0, oX0 PL aFL FL_parting)), (PL, .inr (5, oX5 FO aPL PL_rooms PL_doors PL_things PL_draw PL_drawTold)), (FO, .inr (1, oX1 aFO FO_size FO_units FO_told)), ((aPL 11), .inl (cI, 6, .inl PL_us)), ((aPL 12), .inl (cI, 6, .inl PL_them)), ((aFL 2), .inl (cI, 64, .inl FL_far)), ((aFO 2), .inl (cI, 5, .inl FO_known)), ((aFO 0), .inl (cI, 400, .inl FO_steps)), ((aFO 1), .inl (cI, 61, .inl FO_stack))]) [2, 3, 4, 1, 5, 6, 7, 8, 9, 10, 11] rfl
            have hDc := hD.sub (ws' := [(ME, .inr (3, oX3 FL aME ME_oldest ME_done ME_undone)), ((aME 1), .inl (cI, 32, .inl ME_now)), (FL, .inr (0, oX0 PL aFL FL_parting)), (PL, .inr (5, oX5 FO aPL PL_rooms PL_doors PL_things PL_draw PL_drawTold)), (FO, .inr (1, oX1 aFO FO_size FO_units FO_told)), ((aPL 11), .inl (cI, 6, .inl PL_us)), ((aPL 12), .inl (cI, 6, .inl PL_them)), ((aFL 2), .inl (cI, 64, .inl FL_far)), ((aFO 2), .inl (cI, 5, .inl FO_known)), ((aFO 0), .inl (cI, 400, .inl FO_steps)), ((aFO 1), .inl (cI, 61, .inl FO_stack))]) [2, 3, 4, 1, 5, 6, 7, 8, 9, 10, 11] (by decide) rfl
            have hFc := va_free (wc := [(ME, .inr (3, oX3 FL aME ME_oldest ME_done ME_undone)), ((aME 1), .inl (cI, 32, .inl ME_now)), (FL, .inr (0, oX0 PL aFL FL_parting)), (PL, .inr (5, oX5 FO aPL PL_rooms PL_doors PL_things PL_draw PL_drawTold)), (FO, .inr (1, oX1 aFO FO_size FO_units FO_told)), ((aPL 11), .inl (cI, 6, .inl PL_us)), ((aPL 12), .inl (cI, 6, .inl PL_them)), ((aFL 2), .inl (cI, 64, .inl FL_far)), ((aFO 2), .inl (cI, 5, .inl FO_known)), ((aFO 0), .inl (cI, 400, .inl FO_steps)), ((aFO 1), .inl (cI, 61, .inl FO_stack))]) hD hS hA [2, 3, 4, 1, 5, 6, 7, 8, 9, 10, 11] rfl
            refine va_calli (va_runV (As := [.int x0, .int x1, .int x2]) (rest := []) ⟨hx, hb, hml, hown, hts⟩ (c_X3_oddsToStay l D cI cB cL cZ cG ME x0 x1 x2 FL aME ME_oldest ME_done ME_undone ME_now PL aFL FL_parting PL_rooms aPL PL_doors PL_things FO PL_draw PL_drawTold aFO FO_size FO_units FO_told PL_us PL_them FL_far FO_known FO_steps FO_stack H.size hr2_1_0 bx14f_x1 b_ME_oldest b_ME_done b_ME_undone b_PL_rooms b_PL_doors b_PL_things b_FO_size s_ME_now_0 s_FL_far_0) (cwV 3 hts gX11_stay_X3_oddsToStay rfl rfl rfl (by decide +kernel) ⟨Nat.le_of_ble_eq_true rfl, Nat.le_of_ble_eq_true rfl⟩) ⟨xp_blind, va_recv hK hP (ci := 3) (q0 := 2) rfl rfl, fun U hU hW => xp_mk hU hW hPc hK hDc xNw_nil⟩ rfl rfl hl.1 rfl (lv_room (Nat.le_of_ble_eq_true rfl)) dX11_stay_35 ⟨Nat.le_of_ble_eq_true rfl, Nat.le_of_ble_eq_true rfl⟩) hS (fun q _ h => hFc q h) hFc (fun r35 u9 t9 H1 locs ht9 hvm9 hr35 hB9 hz9 hk9 hS => ?_)
            obtain ⟨o35_nFOknown, o35_nFOstack, hP1, hD1⟩ := hB9
            rw [ht9] at hP1
            obtain ⟨hP, hD⟩ := va_join (wr := [(SO, .inr (11, oX11 PL DR TA RE FL RO HU ME TR NI))]) (w1 := [(ME, .inr (3, oX3 FL aME ME_oldest ME_done ME_undone)), ((aME 1), .inl (cI, 32, .inl ME_now)), (FL, .inr (0, oX0 PL aFL FL_parting)), (PL, .inr (5, oX5 FO aPL PL_rooms PL_doors PL_things PL_draw PL_drawTold)), (FO, .inr (1, oX1 aFO FO_size FO_units FO_told)), ((aPL 11), .inl (cI, 6, .inl PL_us)), ((aPL 12), .inl (cI, 6, .inl PL_them)), ((aFL 2), .inl (cI, 64, .inl FL_far)), ((aFO 2), .inl (cI, 5, .inl o35_nFOknown)), ((aFO 0), .inl (cI, 400, .inl FO_steps)), ((aFO 1), .inl (cI, 61, .inl o35_nFOstack))]) hP hD [2, 3, 4, 1, 5, 6, 7, 8, 9, 10, 11] [0] rfl rfl (by decide) (by decide) hk9 hFc hP1 hD1
            clear hz9 hPc hDc hP1 hD1 hk9 hFc ht9 hvm9 u9 t9
            generalize H1 = H at hP hS ⊢
            replace hP : va_P D classes [(SO, .inr (11, oX11 PL DR TA RE FL RO HU ME TR NI)), (PL, .inr (5, oX5 FO aPL PL_rooms PL_doors PL_things PL_draw PL_drawTold)), (ME, .inr (3, oX3 FL aME ME_oldest ME_done ME_undone)), ((aME 1), .inl (cI, 32, .inl ME_now)), (FL, .inr (0, oX0 PL aFL FL_parting)), (FO, .inr (1, oX1 aFO FO_size FO_units FO_told)), ((aPL 11), .inl (cI, 6, .inl PL_us)), ((aPL 12), .inl (cI, 6, .inl PL_them)), ((aFL 2), .inl (cI, 64, .inl FL_far)), ((aFO 2), .inl (cI, 5, .inl o35_nFOknown)), ((aFO 0), .inl (cI, 400, .inl FO_steps)), ((aFO 1), .inl (cI, 61, .inl o35_nFOstack))] H := hP.sub [0, 4, 1, 2, 3, 5, 6, 7, 8, 9, 10, 11] rfl
            replace hD : va_D A [(SO, .inr (11, oX11 PL DR TA RE FL RO HU ME TR NI)), (PL, .inr (5, oX5 FO aPL PL_rooms PL_doors PL_things PL_draw PL_drawTold)), (ME, .inr (3, oX3 FL aME ME_oldest ME_done ME_undone)), ((aME 1), .inl (cI, 32, .inl ME_now)), (FL, .inr (0, oX0 PL aFL FL_parting)), (FO, .inr (1, oX1 aFO FO_size FO_units FO_told)), ((aPL 11), .inl (cI, 6, .inl PL_us)), ((aPL 12), .inl (cI, 6, .inl PL_them)), ((aFL 2), .inl (cI, 64, .inl FL_far)), ((aFO 2), .inl (cI, 5, .inl o35_nFOknown)), ((aFO 0), .inl (cI, 400, .inl FO_steps)), ((aFO 1), .inl (cI, 61, .inl o35_nFOstack))] := hD.sub [0, 4, 1, 2, 3, 5, 6, 7, 8, 9, 10, 11] (by decide) rfl
            clear hr35
            exact W.iret (v := r35) hx hb hr (fun t ht hW => ⟨⟨r35, (), rfl, trivial, ⟨o35_nFOknown, o35_nFOstack, by rw [ht]; exact hP, hD⟩⟩, hS.F ht⟩) hS.2.2 dX11_stay_38
          · have by23f_x2 : zB x2 2 2147483647 := zB_ltv (zf c23) (show zB 1 1 1 from ⟨by decide, by decide⟩) by18f_x2 (by decide)
            refine lv_iconst (v := (-1)) hx hb dX11_stay_26 (by decide) ?_
            exact W.iret (v := (-1)) hx hb hr (fun t ht hW => ⟨⟨(-1), (), rfl, trivial, ⟨FO_known, FO_stack, by rw [ht]; exact hP, hD⟩⟩, hS.F ht⟩) hS.2.2 dX11_stay_27
set_option maxHeartbeats 4000000 in
set_option maxRecDepth 100000 in
theorem c_X11_will (l : Launch) (D : va_G) (cI : ClassId) (cB : ClassId) (cL : ClassId) (cZ : ClassId) (cG : ClassId) (SO : Nat) (x0 : Int32) (x1 : Int32) (PL : Nat) (DR : Nat) (TA : Nat) (RE : Nat) (FL : Nat) (RO : Nat) (HU : Nat) (ME : Nat) (TR : Nat) (NI : Nat) (PL_rooms : Int32) (aPL : Nat → Nat) (PL_doors : Int32) (PL_things : Int32) (FO : Nat) (PL_draw : Int32) (PL_drawTold : Int32) (aME : Nat → Nat) (ME_oldest : Int32) (ME_done : Int32) (ME_undone : Int32) (ME_now : Nat → Int32) (ME_ahead : Nat → Int32) (aFL : Nat → Nat) (FL_parting : Int32) (aFO : Nat → Nat) (FO_size : Int32) (FO_units : Int32) (FO_told : Int32) (PL_us : Nat → Int32) (PL_them : Nat → Int32) (FL_far : Nat → Int32) (FO_known : Nat → Int32) (FO_steps : Nat → Int32) (FO_stack : Nat → Int32) (sz : Nat) (b_PL_rooms : zB PL_rooms 0 8) (b_PL_doors : zB PL_doors 0 12) (b_PL_things : zB PL_things 0 6) (b_ME_oldest : zB ME_oldest 0 40) (b_ME_done : zB ME_done 0 40) (b_ME_undone : zB ME_undone 0 40) (b_FO_size : zB FO_size 0 400) (s_ME_now_0 : zA ME_now 0 12 0 7) (s_ME_ahead_0 : zA ME_ahead 0 12 0 7) (s_FL_far_0 : zA FL_far 0 64 (-1) 7) : Met l yX11_will wsX11_will ({ frames := 5, cells := 0, slots := 0, locals := 116 }) (xp D [(cI, .int), (cB, .byte), (cL, .long), (cZ, .boolean), (cG, .array .int)] [(SO, .inr (11, oX11 PL DR TA RE FL RO HU ME TR NI)), (PL, .inr (5, oX5 FO aPL PL_rooms PL_doors PL_things PL_draw PL_drawTold)), (ME, .inr (3, oX3 FL aME ME_oldest ME_done ME_undone)), ((aME 1), .inl (cI, 32, .inl ME_now)), ((aME 2), .inl (cI, 32, .inl ME_ahead)), (FL, .inr (0, oX0 PL aFL FL_parting)), (FO, .inr (1, oX1 aFO FO_size FO_units FO_told)), ((aPL 11), .inl (cI, 6, .inl PL_us)), ((aPL 12), .inl (cI, 6, .inl PL_them)), ((aFL 2), .inl (cI, 64, .inl FL_far)), ((aFO 2), .inl (cI, 5, .inl FO_known)), ((aFO 0), .inl (cI, 400, .inl FO_steps)), ((aFO 1), .inl (cI, 61, .inl FO_stack))] sz [] [.ref SO, .int x0, .int x1]) (va_Qi (fun (r : Int32) (_ : Unit) => zB r (-1) 7) (fun (_ : Unit) (t : State) => ∃ (nMEahead : Nat → Int32), ∃ (nFOknown : Nat → Int32), ∃ (nFOstack : Nat → Int32), zA nMEahead 0 12 0 7 ∧ xB D (va_A [(SO, .inr (11, oX11 PL DR TA RE FL RO HU ME TR NI)), (PL, .inr (5, oX5 FO aPL PL_rooms PL_doors PL_things PL_draw PL_drawTold)), (ME, .inr (3, oX3 FL aME ME_oldest ME_done ME_undone)), ((aME 1), .inl (cI, 32, .inl ME_now)), ((aME 2), .inl (cI, 32, .inl ME_ahead)), (FL, .inr (0, oX0 PL aFL FL_parting)), (FO, .inr (1, oX1 aFO FO_size FO_units FO_told)), ((aPL 11), .inl (cI, 6, .inl PL_us)), ((aPL 12), .inl (cI, 6, .inl PL_them)), ((aFL 2), .inl (cI, 64, .inl FL_far)), ((aFO 2), .inl (cI, 5, .inl FO_known)), ((aFO 0), .inl (cI, 400, .inl FO_steps)), ((aFO 1), .inl (cI, 61, .inl FO_stack))] sz) [(SO, .inr (11, oX11 PL DR TA RE FL RO HU ME TR NI)), (PL, .inr (5, oX5 FO aPL PL_rooms PL_doors PL_things PL_draw PL_drawTold)), (ME, .inr (3, oX3 FL aME ME_oldest ME_done ME_undone)), ((aME 1), .inl (cI, 32, .inl ME_now)), ((aME 2), .inl (cI, 32, .inl nMEahead)), (FL, .inr (0, oX0 PL aFL FL_parting)), (FO, .inr (1, oX1 aFO FO_size FO_units FO_told)), ((aPL 11), .inl (cI, 6, .inl PL_us)), ((aPL 12), .inl (cI, 6, .inl PL_them)), ((aFL 2), .inl (cI, 64, .inl FL_far)), ((aFO 2), .inl (cI, 5, .inl nFOknown)), ((aFO 0), .inl (cI, 400, .inl FO_steps)), ((aFO 1), .inl (cI, 61, .inl nFOstack))] t) (va_A [(SO, .inr (11, oX11 PL DR TA RE FL RO HU ME TR NI)), (PL, .inr (5, oX5 FO aPL PL_rooms PL_doors PL_things PL_draw PL_drawTold)), (ME, .inr (3, oX3 FL aME ME_oldest ME_done ME_undone)), ((aME 1), .inl (cI, 32, .inl ME_now)), ((aME 2), .inl (cI, 32, .inl ME_ahead)), (FL, .inr (0, oX0 PL aFL FL_parting)), (FO, .inr (1, oX1 aFO FO_size FO_units FO_told)), ((aPL 11), .inl (cI, 6, .inl PL_us)), ((aPL 12), .inl (cI, 6, .inl PL_them)), ((aFL 2), .inl (cI, 64, .inl FL_far)), ((aFO 2), .inl (cI, 5, .inl FO_known)), ((aFO 0), .inl (cI, 400, .inl FO_steps)), ((aFO 1), .inl (cI, 61, .inl FO_stack))] sz)) 0 0 (va_A [(SO, .inr (11, oX11 PL DR TA RE FL RO HU ME TR NI)), (PL, .inr (5, oX5 FO aPL PL_rooms PL_doors PL_things PL_draw PL_drawTold)), (ME, .inr (3, oX3 FL aME ME_oldest ME_done ME_undone)), ((aME 1), .inl (cI, 32, .inl ME_now)), ((aME 2), .inl (cI, 32, .inl ME_ahead)), (FL, .inr (0, oX0 PL aFL FL_parting)), (FO, .inr (1, oX1 aFO FO_size FO_units FO_told)), ((aPL 11), .inl (cI, 6, .inl PL_us)), ((aPL 12), .inl (cI, 6, .inl PL_them)), ((aFL 2), .inl (cI, 64, .inl FL_far)), ((aFO 2), .inl (cI, 5, .inl FO_known)), ((aFO 0), .inl (cI, 400, .inl FO_steps)), ((aFO 1), .inl (cI, 61, .inl FO_stack))] sz) := by
  refine Met.ofW (cc := cX11_will) (maxL := 3) (ret := (some .int)) (by decide) rfl ?_
  intro p e s m args below meth c s₁ B hml hv
  obtain ⟨rfl, hsz, hP, hK, hD0, hNw⟩ := hv
  have hx := B.exec
  have hb := B.bytes
  have hr := B.returns
  have hts := atoms_spec (ws := wsX11_will) B.pre
  have hown : s.vm.findClass RX11 = some m.cls := findClass_of_methodNamed B.named
  have hlocks := B.notSynchronized
  clear B
  subst hsz
  have hD := hD0.self (sz := s.heap.size)
  clear hD0 hNw
  generalize hAe : va_A [(SO, .inr (11, oX11 PL DR TA RE FL RO HU ME TR NI)), (PL, .inr (5, oX5 FO aPL PL_rooms PL_doors PL_things PL_draw PL_drawTold)), (ME, .inr (3, oX3 FL aME ME_oldest ME_done ME_undone)), ((aME 1), .inl (cI, 32, .inl ME_now)), ((aME 2), .inl (cI, 32, .inl ME_ahead)), (FL, .inr (0, oX0 PL aFL FL_parting)), (FO, .inr (1, oX1 aFO FO_size FO_units FO_told)), ((aPL 11), .inl (cI, 6, .inl PL_us)), ((aPL 12), .inl (cI, 6, .inl PL_them)), ((aFL 2), .inl (cI, 64, .inl FL_far)), ((aFO 2), .inl (cI, 5, .inl FO_known)), ((aFO 0), .inl (cI, 400, .inl FO_steps)), ((aFO 1), .inl (cI, 61, .inl FO_stack))] s.heap.size = A at hD ⊢
  have hA : ∀ q : Nat, s.heap.size ≤ q → A q := fun q h => by rw [← hAe]; exact Or.inr h
  have hS : va_S A s.heap s.heap [] := va_S.rf
  clear hAe
  obtain ⟨H, hH⟩ : ∃ H : Heap, H = s.heap := ⟨_, rfl⟩
  obtain ⟨locs, hlocs⟩ : ∃ L : List Loc, L = [] := ⟨_, rfl⟩
  replace hP : va_P D classes [(SO, .inr (11, oX11 PL DR TA RE FL RO HU ME TR NI)), (PL, .inr (5, oX5 FO aPL PL_rooms PL_doors PL_things PL_draw PL_drawTold)), (ME, .inr (3, oX3 FL aME ME_oldest ME_done ME_undone)), ((aME 1), .inl (cI, 32, .inl ME_now)), ((aME 2), .inl (cI, 32, .inl ME_ahead)), (FL, .inr (0, oX0 PL aFL FL_parting)), (FO, .inr (1, oX1 aFO FO_size FO_units FO_told)), ((aPL 11), .inl (cI, 6, .inl PL_us)), ((aPL 12), .inl (cI, 6, .inl PL_them)), ((aFL 2), .inl (cI, 64, .inl FL_far)), ((aFO 2), .inl (cI, 5, .inl FO_known)), ((aFO 0), .inl (cI, 400, .inl FO_steps)), ((aFO 1), .inl (cI, 61, .inl FO_stack))] H := by rw [hH]; exact hP
  replace hS : va_S A s.heap H locs := by rw [hH, hlocs]; exact hS
  rw [← hH, ← hlocs]
  clear hlocs hH
  have hl := lv_entry ([.ref SO, .int x0, .int x1]) (n := 3) (Nat.le_of_ble_eq_true rfl)
  rw [lg_entry_eq]
  generalize (lg_sl ([.ref SO, .int x0, .int x1]) ++ List.replicate (3 - (lg_sl ([.ref SO, .int x0, .int x1])).length) Slot.unset).toArray = ls at hl ⊢
  replace hl : lv_has ls 3 [(0, .ref SO), (1, .int x0), (2, .int x1)] := hl
  refine lv_aload_n hx hb dX11_will_0 rfl (lv_at hl 0 rfl) ?_
  refine lv_iload_n hx hb dX11_will_1 rfl (lv_at hl 1 rfl) ?_
  have hPc := hP.sub (ws' := [(SO, .inr (11, oX11 PL DR TA RE FL RO HU ME TR NI)), (PL, .inr (5, oX5 FO aPL PL_rooms PL_doors PL_things PL_draw PL_drawTold))]) [0, 1] rfl
  refine vp_callSi (va_runV (As := [.int x0]) (rest := []) ⟨hx, hb, hml, hown, hts⟩ (c_X11_isThing l D cI cB cL cZ cG SO x0 PL DR TA RE FL RO HU ME TR NI PL_rooms aPL PL_doors PL_things FO PL_draw PL_drawTold b_PL_rooms b_PL_doors b_PL_things) (cwV 1 hts gX11_will_X11_isThing rfl rfl rfl (by decide +kernel) ⟨Nat.le_of_ble_eq_true rfl, Nat.le_of_ble_eq_true rfl⟩) ⟨xr_blind, va_recv hK hP (ci := 11) (q0 := 0) rfl rfl, fun U hU hW => xr_mk hU hW hPc hK⟩ rfl rfl hl.1 rfl (lv_room (Nat.le_of_ble_eq_true rfl)) dX11_will_2 ⟨Nat.le_of_ble_eq_true rfl, Nat.le_of_ble_eq_true rfl⟩).run (fun r2 hr2 => ?_)
  clear hPc
  rcases hr2 with rfl | ⟨rfl, hr2_1_0⟩
  · refine lv_if_eq (tgt := 18) hx hb dX11_will_5 (by decide) (fun _ => ?_) (fun c5 => absurd (by decide) c5)
    refine lv_iconst (v := (-1)) hx hb dX11_will_18 (by decide) ?_
    exact W.iret (v := (-1)) hx hb hr (fun t ht hW => ⟨⟨(-1), (), rfl, (zB_w (show zB (-1) (-1) (-1) from ⟨by decide, by decide⟩) (by decide) (by decide)), ⟨ME_ahead, FO_known, FO_stack, s_ME_ahead_0, by rw [ht]; exact hP, hD⟩⟩, hS.F ht⟩) hS.2.2 dX11_will_19
  · refine lv_if_eq (tgt := 18) hx hb dX11_will_5 (by decide) (fun c5 => absurd c5 (by decide)) (fun _ => ?_)
    refine lv_iload_n hx hb dX11_will_8 rfl (lv_at hl 2 rfl) ?_
    refine lv_if_lt (tgt := 18) hx hb dX11_will_9 (by decide) (fun c9 => ?_) (fun c9 => ?_)
    · have bx9t_x1 : zB x1 (-2147483648) (-1) := zB_ltu (zl c9) (zB_top x1) (show zB 0 0 0 from ⟨by decide, by decide⟩) (by decide)
      refine lv_iconst (v := (-1)) hx hb dX11_will_18 (by decide) ?_
      exact W.iret (v := (-1)) hx hb hr (fun t ht hW => ⟨⟨(-1), (), rfl, (zB_w (show zB (-1) (-1) (-1) from ⟨by decide, by decide⟩) (by decide) (by decide)), ⟨ME_ahead, FO_known, FO_stack, s_ME_ahead_0, by rw [ht]; exact hP, hD⟩⟩, hS.F ht⟩) hS.2.2 dX11_will_19
    · have by9f_x1 : zB x1 0 2147483647 := zB_lev (zg c9) (show zB 0 0 0 from ⟨by decide, by decide⟩) (zB_top x1) (by decide)
      refine lv_iload_n hx hb dX11_will_12 rfl (lv_at hl 2 rfl) ?_
      refine lv_bipush (v := 60) hx hb dX11_will_13 (by decide) ?_
      refine lv_icmp_le (tgt := 20) hx hb dX11_will_15 (by decide) (fun c15 => ?_) (fun c15 => ?_)
      · have bx15t_x1 : zB x1 0 60 := zB_leu (ze c15) by9f_x1 (show zB 60 60 60 from ⟨by decide, by decide⟩) (by decide)
        refine lv_aload_n hx hb dX11_will_20 rfl (lv_at hl 0 rfl) ?_
        refine va_get (D := D) (ci := 11) (v := .ref ME) (C := RX11) (T := TX11) (N := 10) hx hb hts iw_X11_will_X11 hown hK hP 0 rfl rfl 7 (by decide) (hts (.fieldLink RX11 63 "SoldHouse" "memory" "LSoldHouse$Memory;") (List.mem_of_getElem? (i := 1) rfl)) (fun _ h9 => h9) rfl dX11_will_21 ?_
        refine lv_iload_n hx hb dX11_will_24 rfl (lv_at hl 1 rfl) ?_
        refine lv_iload_n hx hb dX11_will_25 rfl (lv_at hl 2 rfl) ?_
        have hPc := hP.sub (ws' := [(ME, .inr (3, oX3 FL aME ME_oldest ME_done ME_undone)), ((aME 1), .inl (cI, 32, .inl ME_now)), ((aME 2), .inl (cI, 32, .inl ME_ahead)), (FL, .inr (0, oX0 PL aFL FL_parting)), (PL, .inr (5, oX5 FO aPL PL_rooms PL_doors PL_things PL_draw PL_drawTold)), (FO, .inr (1, oX1 aFO FO_size FO_units FO_told)), ((aPL 11), .inl (cI, 6, .inl PL_us)), ((aPL 12), .inl (cI, 6, .inl PL_them)), ((aFL 2), .inl (cI, 64, .inl FL_far)), ((aFO 2), .inl (cI, 5, .inl FO_known)), ((aFO 0), .inl (cI, 400, .inl FO_steps)), ((aFO 1), .inl (cI, 61, .inl FO_stack))]) [2, 3, 4, 5, 1, 6, 7, 8, 9, 10, 11, 12] rfl
        have hDc := hD.sub (ws' := [(ME, .inr (3, oX3 FL aME ME_oldest ME_done ME_undone)), ((aME 1), .inl (cI, 32, .inl ME_now)), ((aME 2), .inl (cI, 32, .inl ME_ahead)), (FL, .inr (0, oX0 PL aFL FL_parting)), (PL, .inr (5, oX5 FO aPL PL_rooms PL_doors PL_things PL_draw PL_drawTold)), (FO, .inr (1, oX1 aFO FO_size FO_units FO_told)), ((aPL 11), .inl (cI, 6, .inl PL_us)), ((aPL 12), .inl (cI, 6, .inl PL_them)), ((aFL 2), .inl (cI, 64, .inl FL_far)), ((aFO 2), .inl (cI, 5, .inl FO_known)), ((aFO 0), .inl (cI, 400, .inl FO_steps)), ((aFO 1), .inl (cI, 61, .inl FO_stack))]) [2, 3, 4, 5, 1, 6, 7, 8, 9, 10, 11, 12] (by decide) rfl
        have hFc := va_free (wc := [(ME, .inr (3, oX3 FL aME ME_oldest ME_done ME_undone)), ((aME 1), .inl (cI, 32, .inl ME_now)), ((aME 2), .inl (cI, 32, .inl ME_ahead)), (FL, .inr (0, oX0 PL aFL FL_parting)), (PL, .inr (5, oX5 FO aPL PL_rooms PL_doors PL_things PL_draw PL_drawTold)), (FO, .inr (1, oX1 aFO FO_size FO_units FO_told)), ((aPL 11), .inl (cI, 6, .inl PL_us)), ((aPL 12), .inl (cI, 6, .inl PL_them)), ((aFL 2), .inl (cI, 64, .inl FL_far)), ((aFO 2), .inl (cI, 5, .inl FO_known)), ((aFO 0), .inl (cI, 400, .inl FO_steps)), ((aFO 1), .inl (cI, 61, .inl FO_stack))]) hD hS hA [2, 3, 4, 5, 1, 6, 7, 8, 9, 10, 11, 12] rfl
        refine va_calli (va_runV (As := [.int x0, .int x1]) (rest := []) ⟨hx, hb, hml, hown, hts⟩ (c_X3_thoughtBehind l D cI cB cL cZ cG ME x0 x1 FL aME ME_oldest ME_done ME_undone ME_now ME_ahead PL aFL FL_parting PL_rooms aPL PL_doors PL_things FO PL_draw PL_drawTold aFO FO_size FO_units FO_told PL_us PL_them FL_far FO_known FO_steps FO_stack H.size hr2_1_0 bx15t_x1 b_ME_oldest b_ME_done b_ME_undone b_PL_rooms b_PL_doors b_PL_things b_FO_size s_ME_now_0 s_ME_ahead_0 s_FL_far_0) (cwV 2 hts gX11_will_X3_thoughtBehind rfl rfl rfl (by decide +kernel) ⟨Nat.le_of_ble_eq_true rfl, Nat.le_of_ble_eq_true rfl⟩) ⟨xp_blind, va_recv hK hP (ci := 3) (q0 := 2) rfl rfl, fun U hU hW => xp_mk hU hW hPc hK hDc xNw_nil⟩ rfl rfl hl.1 rfl (lv_room (Nat.le_of_ble_eq_true rfl)) dX11_will_26 ⟨Nat.le_of_ble_eq_true rfl, Nat.le_of_ble_eq_true rfl⟩) hS (fun q _ h => hFc q h) hFc (fun r26 u9 t9 H1 locs ht9 hvm9 hr26 hB9 hz9 hk9 hS => ?_)
        obtain ⟨o26_nMEahead, o26_nFOknown, o26_nFOstack, so26_nMEahead_0, hP1, hD1⟩ := hB9
        rw [ht9] at hP1
        obtain ⟨hP, hD⟩ := va_join (wr := [(SO, .inr (11, oX11 PL DR TA RE FL RO HU ME TR NI))]) (w1 := [(ME, .inr (3, oX3 FL aME ME_oldest ME_done ME_undone)), ((aME 1), .inl (cI, 32, .inl ME_now)), ((aME 2), .inl (cI, 32, .inl o26_nMEahead)), (FL, .inr (0, oX0 PL aFL FL_parting)), (PL, .inr (5, oX5 FO aPL PL_rooms PL_doors PL_things PL_draw PL_drawTold)), (FO, .inr (1, oX1 aFO FO_size FO_units FO_told)), ((aPL 11), .inl (cI, 6, .inl PL_us)), ((aPL 12), .inl (cI, 6, .inl PL_them)), ((aFL 2), .inl (cI, 64, .inl FL_far)), ((aFO 2), .inl (cI, 5, .inl o26_nFOknown)), ((aFO 0), .inl (cI, 400, .inl FO_steps)), ((aFO 1), .inl (cI, 61, .inl o26_nFOstack))]) hP hD [2, 3, 4, 5, 1, 6, 7, 8, 9, 10, 11, 12] [0] rfl rfl (by decide) (by decide) hk9 hFc hP1 hD1
        clear hz9 hPc hDc hP1 hD1 hk9 hFc ht9 hvm9 u9 t9
        generalize H1 = H at hP hS ⊢
        replace hP : va_P D classes [(SO, .inr (11, oX11 PL DR TA RE FL RO HU ME TR NI)), (PL, .inr (5, oX5 FO aPL PL_rooms PL_doors PL_things PL_draw PL_drawTold)), (ME, .inr (3, oX3 FL aME ME_oldest ME_done ME_undone)), ((aME 1), .inl (cI, 32, .inl ME_now)), ((aME 2), .inl (cI, 32, .inl o26_nMEahead)), (FL, .inr (0, oX0 PL aFL FL_parting)), (FO, .inr (1, oX1 aFO FO_size FO_units FO_told)), ((aPL 11), .inl (cI, 6, .inl PL_us)), ((aPL 12), .inl (cI, 6, .inl PL_them)), ((aFL 2), .inl (cI, 64, .inl FL_far)), ((aFO 2), .inl (cI, 5, .inl o26_nFOknown)), ((aFO 0), .inl (cI, 400, .inl FO_steps)), ((aFO 1), .inl (cI, 61, .inl o26_nFOstack))] H := hP.sub [0, 5, 1, 2, 3, 4, 6, 7, 8, 9, 10, 11, 12] rfl
        replace hD : va_D A [(SO, .inr (11, oX11 PL DR TA RE FL RO HU ME TR NI)), (PL, .inr (5, oX5 FO aPL PL_rooms PL_doors PL_things PL_draw PL_drawTold)), (ME, .inr (3, oX3 FL aME ME_oldest ME_done ME_undone)), ((aME 1), .inl (cI, 32, .inl ME_now)), ((aME 2), .inl (cI, 32, .inl o26_nMEahead)), (FL, .inr (0, oX0 PL aFL FL_parting)), (FO, .inr (1, oX1 aFO FO_size FO_units FO_told)), ((aPL 11), .inl (cI, 6, .inl PL_us)), ((aPL 12), .inl (cI, 6, .inl PL_them)), ((aFL 2), .inl (cI, 64, .inl FL_far)), ((aFO 2), .inl (cI, 5, .inl o26_nFOknown)), ((aFO 0), .inl (cI, 400, .inl FO_steps)), ((aFO 1), .inl (cI, 61, .inl o26_nFOstack))] := hD.sub [0, 5, 1, 2, 3, 4, 6, 7, 8, 9, 10, 11, 12] (by decide) rfl
        exact W.iret (v := r26) hx hb hr (fun t ht hW => ⟨⟨r26, (), rfl, (zB_w hr26 (by decide) (by decide)), ⟨o26_nMEahead, o26_nFOknown, o26_nFOstack, so26_nMEahead_0, by rw [ht]; exact hP, hD⟩⟩, hS.F ht⟩) hS.2.2 dX11_will_29
      · have by15f_x1 : zB x1 61 2147483647 := zB_ltv (zf c15) (show zB 60 60 60 from ⟨by decide, by decide⟩) by9f_x1 (by decide)
        refine lv_iconst (v := (-1)) hx hb dX11_will_18 (by decide) ?_
        exact W.iret (v := (-1)) hx hb hr (fun t ht hW => ⟨⟨(-1), (), rfl, (zB_w (show zB (-1) (-1) (-1) from ⟨by decide, by decide⟩) (by decide) (by decide)), ⟨ME_ahead, FO_known, FO_stack, s_ME_ahead_0, by rw [ht]; exact hP, hD⟩⟩, hS.F ht⟩) hS.2.2 dX11_will_19
set_option maxHeartbeats 4000000 in
set_option maxRecDepth 100000 in
theorem c_X11_lost (l : Launch) (D : va_G) (cI : ClassId) (cB : ClassId) (cL : ClassId) (cZ : ClassId) (cG : ClassId) (SO : Nat) (PL : Nat) (DR : Nat) (TA : Nat) (RE : Nat) (FL : Nat) (RO : Nat) (HU : Nat) (ME : Nat) (TR : Nat) (NI : Nat) (aME : Nat → Nat) (ME_oldest : Int32) (ME_done : Int32) (ME_undone : Int32) (aFL : Nat → Nat) (FL_parting : Int32) (PL_rooms : Int32) (aPL : Nat → Nat) (PL_doors : Int32) (PL_things : Int32) (FO : Nat) (PL_draw : Int32) (PL_drawTold : Int32) (ME_now : Nat → Int32) (ME_ahead : Nat → Int32) (aFO : Nat → Nat) (FO_size : Int32) (FO_units : Int32) (FO_told : Int32) (PL_us : Nat → Int32) (PL_them : Nat → Int32) (FL_far : Nat → Int32) (FO_known : Nat → Int32) (FO_steps : Nat → Int32) (FO_stack : Nat → Int32) (sz : Nat) (b_ME_oldest : zB ME_oldest 0 40) (b_ME_done : zB ME_done 0 40) (b_ME_undone : zB ME_undone 0 40) (b_PL_rooms : zB PL_rooms 0 8) (b_PL_doors : zB PL_doors 0 12) (b_PL_things : zB PL_things 0 6) (b_FO_size : zB FO_size 0 400) (s_ME_now_0 : zA ME_now 0 12 0 7) (s_ME_ahead_0 : zA ME_ahead 0 12 0 7) (s_FL_far_0 : zA FL_far 0 64 (-1) 7) : Met l yX11_lost wsX11_lost ({ frames := 5, cells := 0, slots := 0, locals := 114 }) (xp D [(cI, .int), (cB, .byte), (cL, .long), (cZ, .boolean), (cG, .array .int)] [(SO, .inr (11, oX11 PL DR TA RE FL RO HU ME TR NI)), (ME, .inr (3, oX3 FL aME ME_oldest ME_done ME_undone)), (FL, .inr (0, oX0 PL aFL FL_parting)), (PL, .inr (5, oX5 FO aPL PL_rooms PL_doors PL_things PL_draw PL_drawTold)), ((aME 1), .inl (cI, 32, .inl ME_now)), ((aME 2), .inl (cI, 32, .inl ME_ahead)), (FO, .inr (1, oX1 aFO FO_size FO_units FO_told)), ((aPL 11), .inl (cI, 6, .inl PL_us)), ((aPL 12), .inl (cI, 6, .inl PL_them)), ((aFL 2), .inl (cI, 64, .inl FL_far)), ((aFO 2), .inl (cI, 5, .inl FO_known)), ((aFO 0), .inl (cI, 400, .inl FO_steps)), ((aFO 1), .inl (cI, 61, .inl FO_stack))] sz [] [.ref SO]) (va_Qi (fun (r : Int32) (_ : Unit) => zB r (-1) 60) (fun (_ : Unit) (t : State) => ∃ (nMEahead : Nat → Int32), ∃ (nFOknown : Nat → Int32), ∃ (nFOstack : Nat → Int32), zA nMEahead 0 12 0 7 ∧ xB D (va_A [(SO, .inr (11, oX11 PL DR TA RE FL RO HU ME TR NI)), (ME, .inr (3, oX3 FL aME ME_oldest ME_done ME_undone)), (FL, .inr (0, oX0 PL aFL FL_parting)), (PL, .inr (5, oX5 FO aPL PL_rooms PL_doors PL_things PL_draw PL_drawTold)), ((aME 1), .inl (cI, 32, .inl ME_now)), ((aME 2), .inl (cI, 32, .inl ME_ahead)), (FO, .inr (1, oX1 aFO FO_size FO_units FO_told)), ((aPL 11), .inl (cI, 6, .inl PL_us)), ((aPL 12), .inl (cI, 6, .inl PL_them)), ((aFL 2), .inl (cI, 64, .inl FL_far)), ((aFO 2), .inl (cI, 5, .inl FO_known)), ((aFO 0), .inl (cI, 400, .inl FO_steps)), ((aFO 1), .inl (cI, 61, .inl FO_stack))] sz) [(SO, .inr (11, oX11 PL DR TA RE FL RO HU ME TR NI)), (ME, .inr (3, oX3 FL aME ME_oldest ME_done ME_undone)), (FL, .inr (0, oX0 PL aFL FL_parting)), (PL, .inr (5, oX5 FO aPL PL_rooms PL_doors PL_things PL_draw PL_drawTold)), ((aME 1), .inl (cI, 32, .inl ME_now)), ((aME 2), .inl (cI, 32, .inl nMEahead)), (FO, .inr (1, oX1 aFO FO_size FO_units FO_told)), ((aPL 11), .inl (cI, 6, .inl PL_us)), ((aPL 12), .inl (cI, 6, .inl PL_them)), ((aFL 2), .inl (cI, 64, .inl FL_far)), ((aFO 2), .inl (cI, 5, .inl nFOknown)), ((aFO 0), .inl (cI, 400, .inl FO_steps)), ((aFO 1), .inl (cI, 61, .inl nFOstack))] t) (va_A [(SO, .inr (11, oX11 PL DR TA RE FL RO HU ME TR NI)), (ME, .inr (3, oX3 FL aME ME_oldest ME_done ME_undone)), (FL, .inr (0, oX0 PL aFL FL_parting)), (PL, .inr (5, oX5 FO aPL PL_rooms PL_doors PL_things PL_draw PL_drawTold)), ((aME 1), .inl (cI, 32, .inl ME_now)), ((aME 2), .inl (cI, 32, .inl ME_ahead)), (FO, .inr (1, oX1 aFO FO_size FO_units FO_told)), ((aPL 11), .inl (cI, 6, .inl PL_us)), ((aPL 12), .inl (cI, 6, .inl PL_them)), ((aFL 2), .inl (cI, 64, .inl FL_far)), ((aFO 2), .inl (cI, 5, .inl FO_known)), ((aFO 0), .inl (cI, 400, .inl FO_steps)), ((aFO 1), .inl (cI, 61, .inl FO_stack))] sz)) 0 0 (va_A [(SO, .inr (11, oX11 PL DR TA RE FL RO HU ME TR NI)), (ME, .inr (3, oX3 FL aME ME_oldest ME_done ME_undone)), (FL, .inr (0, oX0 PL aFL FL_parting)), (PL, .inr (5, oX5 FO aPL PL_rooms PL_doors PL_things PL_draw PL_drawTold)), ((aME 1), .inl (cI, 32, .inl ME_now)), ((aME 2), .inl (cI, 32, .inl ME_ahead)), (FO, .inr (1, oX1 aFO FO_size FO_units FO_told)), ((aPL 11), .inl (cI, 6, .inl PL_us)), ((aPL 12), .inl (cI, 6, .inl PL_them)), ((aFL 2), .inl (cI, 64, .inl FL_far)), ((aFO 2), .inl (cI, 5, .inl FO_known)), ((aFO 0), .inl (cI, 400, .inl FO_steps)), ((aFO 1), .inl (cI, 61, .inl FO_stack))] sz) := by
  refine Met.ofW (cc := cX11_lost) (maxL := 1) (ret := (some .int)) (by decide) rfl ?_
  intro p e s m args below meth c s₁ B hml hv
  obtain ⟨rfl, hsz, hP, hK, hD0, hNw⟩ := hv
  have hx := B.exec
  have hb := B.bytes
  have hr := B.returns
  have hts := atoms_spec (ws := wsX11_lost) B.pre
  have hown : s.vm.findClass RX11 = some m.cls := findClass_of_methodNamed B.named
  have hlocks := B.notSynchronized
  clear B
  subst hsz
  have hD := hD0.self (sz := s.heap.size)
  clear hD0 hNw
  generalize hAe : va_A [(SO, .inr (11, oX11 PL DR TA RE FL RO HU ME TR NI)), (ME, .inr (3, oX3 FL aME ME_oldest ME_done ME_undone)), (FL, .inr (0, oX0 PL aFL FL_parting)), (PL, .inr (5, oX5 FO aPL PL_rooms PL_doors PL_things PL_draw PL_drawTold)), ((aME 1), .inl (cI, 32, .inl ME_now)), ((aME 2), .inl (cI, 32, .inl ME_ahead)), (FO, .inr (1, oX1 aFO FO_size FO_units FO_told)), ((aPL 11), .inl (cI, 6, .inl PL_us)), ((aPL 12), .inl (cI, 6, .inl PL_them)), ((aFL 2), .inl (cI, 64, .inl FL_far)), ((aFO 2), .inl (cI, 5, .inl FO_known)), ((aFO 0), .inl (cI, 400, .inl FO_steps)), ((aFO 1), .inl (cI, 61, .inl FO_stack))] s.heap.size = A at hD ⊢
  have hA : ∀ q : Nat, s.heap.size ≤ q → A q := fun q h => by rw [← hAe]; exact Or.inr h
  have hS : va_S A s.heap s.heap [] := va_S.rf
  clear hAe
  obtain ⟨H, hH⟩ : ∃ H : Heap, H = s.heap := ⟨_, rfl⟩
  obtain ⟨locs, hlocs⟩ : ∃ L : List Loc, L = [] := ⟨_, rfl⟩
  replace hP : va_P D classes [(SO, .inr (11, oX11 PL DR TA RE FL RO HU ME TR NI)), (ME, .inr (3, oX3 FL aME ME_oldest ME_done ME_undone)), (FL, .inr (0, oX0 PL aFL FL_parting)), (PL, .inr (5, oX5 FO aPL PL_rooms PL_doors PL_things PL_draw PL_drawTold)), ((aME 1), .inl (cI, 32, .inl ME_now)), ((aME 2), .inl (cI, 32, .inl ME_ahead)), (FO, .inr (1, oX1 aFO FO_size FO_units FO_told)), ((aPL 11), .inl (cI, 6, .inl PL_us)), ((aPL 12), .inl (cI, 6, .inl PL_them)), ((aFL 2), .inl (cI, 64, .inl FL_far)), ((aFO 2), .inl (cI, 5, .inl FO_known)), ((aFO 0), .inl (cI, 400, .inl FO_steps)), ((aFO 1), .inl (cI, 61, .inl FO_stack))] H := by rw [hH]; exact hP
  replace hS : va_S A s.heap H locs := by rw [hH, hlocs]; exact hS
  rw [← hH, ← hlocs]
  clear hlocs hH
  have hl := lv_entry ([.ref SO]) (n := 1) (Nat.le_of_ble_eq_true rfl)
  rw [lg_entry_eq]
  generalize (lg_sl ([.ref SO]) ++ List.replicate (1 - (lg_sl ([.ref SO])).length) Slot.unset).toArray = ls at hl ⊢
  replace hl : lv_has ls 1 [(0, .ref SO)] := hl
  refine lv_aload_n hx hb dX11_lost_0 rfl (lv_at hl 0 rfl) ?_
  refine va_get (D := D) (ci := 11) (v := .ref ME) (C := RX11) (T := TX11) (N := 10) hx hb hts iw_X11_lost_X11 hown hK hP 0 rfl rfl 7 (by decide) (hts (.fieldLink RX11 63 "SoldHouse" "memory" "LSoldHouse$Memory;") (List.mem_of_getElem? (i := 1) rfl)) (fun _ h9 => h9) rfl dX11_lost_1 ?_
  have hPc := hP.sub (ws' := [(ME, .inr (3, oX3 FL aME ME_oldest ME_done ME_undone)), (FL, .inr (0, oX0 PL aFL FL_parting)), (PL, .inr (5, oX5 FO aPL PL_rooms PL_doors PL_things PL_draw PL_drawTold)), ((aME 1), .inl (cI, 32, .inl ME_now)), ((aME 2), .inl (cI, 32, .inl ME_ahead)), (FO, .inr (1, oX1 aFO FO_size FO_units FO_told)), ((aPL 11), .inl (cI, 6, .inl PL_us)), ((aPL 12), .inl (cI, 6, .inl PL_them)), ((aFL 2), .inl (cI, 64, .inl FL_far)), ((aFO 2), .inl (cI, 5, .inl FO_known)), ((aFO 0), .inl (cI, 400, .inl FO_steps)), ((aFO 1), .inl (cI, 61, .inl FO_stack))]) [1, 2, 3, 4, 5, 6, 7, 8, 9, 10, 11, 12] rfl
  have hDc := hD.sub (ws' := [(ME, .inr (3, oX3 FL aME ME_oldest ME_done ME_undone)), (FL, .inr (0, oX0 PL aFL FL_parting)), (PL, .inr (5, oX5 FO aPL PL_rooms PL_doors PL_things PL_draw PL_drawTold)), ((aME 1), .inl (cI, 32, .inl ME_now)), ((aME 2), .inl (cI, 32, .inl ME_ahead)), (FO, .inr (1, oX1 aFO FO_size FO_units FO_told)), ((aPL 11), .inl (cI, 6, .inl PL_us)), ((aPL 12), .inl (cI, 6, .inl PL_them)), ((aFL 2), .inl (cI, 64, .inl FL_far)), ((aFO 2), .inl (cI, 5, .inl FO_known)), ((aFO 0), .inl (cI, 400, .inl FO_steps)), ((aFO 1), .inl (cI, 61, .inl FO_stack))]) [1, 2, 3, 4, 5, 6, 7, 8, 9, 10, 11, 12] (by decide) rfl
  have hFc := va_free (wc := [(ME, .inr (3, oX3 FL aME ME_oldest ME_done ME_undone)), (FL, .inr (0, oX0 PL aFL FL_parting)), (PL, .inr (5, oX5 FO aPL PL_rooms PL_doors PL_things PL_draw PL_drawTold)), ((aME 1), .inl (cI, 32, .inl ME_now)), ((aME 2), .inl (cI, 32, .inl ME_ahead)), (FO, .inr (1, oX1 aFO FO_size FO_units FO_told)), ((aPL 11), .inl (cI, 6, .inl PL_us)), ((aPL 12), .inl (cI, 6, .inl PL_them)), ((aFL 2), .inl (cI, 64, .inl FL_far)), ((aFO 2), .inl (cI, 5, .inl FO_known)), ((aFO 0), .inl (cI, 400, .inl FO_steps)), ((aFO 1), .inl (cI, 61, .inl FO_stack))]) hD hS hA [1, 2, 3, 4, 5, 6, 7, 8, 9, 10, 11, 12] rfl
  refine va_calli (va_runV (As := []) (rest := []) ⟨hx, hb, hml, hown, hts⟩ (c_X3_daysTillLost l D cI cB cL cZ cG ME FL aME ME_oldest ME_done ME_undone PL aFL FL_parting PL_rooms aPL PL_doors PL_things FO PL_draw PL_drawTold ME_now ME_ahead aFO FO_size FO_units FO_told PL_us PL_them FL_far FO_known FO_steps FO_stack H.size b_ME_oldest b_ME_done b_ME_undone b_PL_rooms b_PL_doors b_PL_things b_FO_size s_ME_now_0 s_ME_ahead_0 s_FL_far_0) (cwV 0 hts gX11_lost_X3_daysTillLost rfl rfl rfl (by decide +kernel) ⟨Nat.le_of_ble_eq_true rfl, Nat.le_of_ble_eq_true rfl⟩) ⟨xp_blind, va_recv hK hP (ci := 3) (q0 := 1) rfl rfl, fun U hU hW => xp_mk hU hW hPc hK hDc xNw_nil⟩ rfl rfl hl.1 rfl (lv_room (Nat.le_of_ble_eq_true rfl)) dX11_lost_4 ⟨Nat.le_of_ble_eq_true rfl, Nat.le_of_ble_eq_true rfl⟩) hS (fun q _ h => hFc q h) hFc (fun r4 u9 t9 H1 locs ht9 hvm9 hr4 hB9 hz9 hk9 hS => ?_)
  obtain ⟨o4_nMEahead, o4_nFOknown, o4_nFOstack, so4_nMEahead_0, hP1, hD1⟩ := hB9
  rw [ht9] at hP1
  obtain ⟨hP, hD⟩ := va_join (wr := [(SO, .inr (11, oX11 PL DR TA RE FL RO HU ME TR NI))]) (w1 := [(ME, .inr (3, oX3 FL aME ME_oldest ME_done ME_undone)), (FL, .inr (0, oX0 PL aFL FL_parting)), (PL, .inr (5, oX5 FO aPL PL_rooms PL_doors PL_things PL_draw PL_drawTold)), ((aME 1), .inl (cI, 32, .inl ME_now)), ((aME 2), .inl (cI, 32, .inl o4_nMEahead)), (FO, .inr (1, oX1 aFO FO_size FO_units FO_told)), ((aPL 11), .inl (cI, 6, .inl PL_us)), ((aPL 12), .inl (cI, 6, .inl PL_them)), ((aFL 2), .inl (cI, 64, .inl FL_far)), ((aFO 2), .inl (cI, 5, .inl o4_nFOknown)), ((aFO 0), .inl (cI, 400, .inl FO_steps)), ((aFO 1), .inl (cI, 61, .inl o4_nFOstack))]) hP hD [1, 2, 3, 4, 5, 6, 7, 8, 9, 10, 11, 12] [0] rfl rfl (by decide) (by decide) hk9 hFc hP1 hD1
  clear hz9 hPc hDc hP1 hD1 hk9 hFc ht9 hvm9 u9 t9
  generalize H1 = H at hP hS ⊢
  replace hP : va_P D classes [(SO, .inr (11, oX11 PL DR TA RE FL RO HU ME TR NI)), (ME, .inr (3, oX3 FL aME ME_oldest ME_done ME_undone)), (FL, .inr (0, oX0 PL aFL FL_parting)), (PL, .inr (5, oX5 FO aPL PL_rooms PL_doors PL_things PL_draw PL_drawTold)), ((aME 1), .inl (cI, 32, .inl ME_now)), ((aME 2), .inl (cI, 32, .inl o4_nMEahead)), (FO, .inr (1, oX1 aFO FO_size FO_units FO_told)), ((aPL 11), .inl (cI, 6, .inl PL_us)), ((aPL 12), .inl (cI, 6, .inl PL_them)), ((aFL 2), .inl (cI, 64, .inl FL_far)), ((aFO 2), .inl (cI, 5, .inl o4_nFOknown)), ((aFO 0), .inl (cI, 400, .inl FO_steps)), ((aFO 1), .inl (cI, 61, .inl o4_nFOstack))] H := hP
  replace hD : va_D A [(SO, .inr (11, oX11 PL DR TA RE FL RO HU ME TR NI)), (ME, .inr (3, oX3 FL aME ME_oldest ME_done ME_undone)), (FL, .inr (0, oX0 PL aFL FL_parting)), (PL, .inr (5, oX5 FO aPL PL_rooms PL_doors PL_things PL_draw PL_drawTold)), ((aME 1), .inl (cI, 32, .inl ME_now)), ((aME 2), .inl (cI, 32, .inl o4_nMEahead)), (FO, .inr (1, oX1 aFO FO_size FO_units FO_told)), ((aPL 11), .inl (cI, 6, .inl PL_us)), ((aPL 12), .inl (cI, 6, .inl PL_them)), ((aFL 2), .inl (cI, 64, .inl FL_far)), ((aFO 2), .inl (cI, 5, .inl o4_nFOknown)), ((aFO 0), .inl (cI, 400, .inl FO_steps)), ((aFO 1), .inl (cI, 61, .inl o4_nFOstack))] := hD
  exact W.iret (v := r4) hx hb hr (fun t ht hW => ⟨⟨r4, (), rfl, hr4, ⟨o4_nMEahead, o4_nFOknown, o4_nFOstack, so4_nMEahead_0, by rw [ht]; exact hP, hD⟩⟩, hS.F ht⟩) hS.2.2 dX11_lost_7
set_option maxHeartbeats 4000000 in
set_option maxRecDepth 100000 in
theorem c_X11_lies (l : Launch) (D : va_G) (cI : ClassId) (cB : ClassId) (cL : ClassId) (cZ : ClassId) (cG : ClassId) (SO : Nat) (x0 : Int32) (PL : Nat) (DR : Nat) (TA : Nat) (RE : Nat) (FL : Nat) (RO : Nat) (HU : Nat) (ME : Nat) (TR : Nat) (NI : Nat) (aRO : Nat → Nat) (RO_lying : Int32) (RO_lie : Nat → Int32) (b_RO_lying : zB RO_lying 0 8) : Met l yX11_lies wsX11_lies ({ frames := 0, cells := 0, slots := 0, locals := 0 }) (xr D [(cI, .int), (cB, .byte), (cL, .long), (cZ, .boolean), (cG, .array .int)] [(SO, .inr (11, oX11 PL DR TA RE FL RO HU ME TR NI)), (RO, .inr (7, oX7 FL aRO RO_lying)), ((aRO 1), .inl (cI, 8, .inl RO_lie))] [.ref SO, .int x0]) (vp_Si (fun r => True)) 0 0 (fun _ => False) := by
  refine Met.ofW (cc := cX11_lies) (maxL := 2) (ret := (some .int)) (by decide) rfl ?_
  intro p e s m args below meth c s₁ B hml hv
  obtain ⟨rfl, hP, hK⟩ := hv
  have hx := B.exec
  have hb := B.bytes
  have hr := B.returns
  have hts := atoms_spec (ws := wsX11_lies) B.pre
  have hown : s.vm.findClass RX11 = some m.cls := findClass_of_methodNamed B.named
  have hlocks := B.notSynchronized
  clear B
  have hl := lv_entry ([.ref SO, .int x0]) (n := 2) (Nat.le_of_ble_eq_true rfl)
  rw [lg_entry_eq]
  generalize (lg_sl ([.ref SO, .int x0]) ++ List.replicate (2 - (lg_sl ([.ref SO, .int x0])).length) Slot.unset).toArray = ls at hl ⊢
  replace hl : lv_has ls 2 [(0, .ref SO), (1, .int x0)] := hl
  refine lv_iload_n hx hb dX11_lies_0 rfl (lv_at hl 1 rfl) ?_
  refine lv_if_lt (tgt := 15) hx hb dX11_lies_1 (by decide) (fun c1 => ?_) (fun c1 => ?_)
  · have bx1t_x0 : zB x0 (-2147483648) (-1) := zB_ltu (zl c1) (zB_top x0) (show zB 0 0 0 from ⟨by decide, by decide⟩) (by decide)
    refine lv_iconst (v := (-1)) hx hb dX11_lies_15 (by decide) ?_
    refine lv_goto (tgt := 28) hx hb dX11_lies_16 (by decide) ?_
    exact W.iret (v := (-1)) hx hb hr (fun t ht hW => ⟨(-1), rfl, trivial, ht⟩) (fun q hq => by cases hq) dX11_lies_28
  · have by1f_x0 : zB x0 0 2147483647 := zB_lev (zg c1) (show zB 0 0 0 from ⟨by decide, by decide⟩) (zB_top x0) (by decide)
    refine lv_iload_n hx hb dX11_lies_4 rfl (lv_at hl 1 rfl) ?_
    refine lv_aload_n hx hb dX11_lies_5 rfl (lv_at hl 0 rfl) ?_
    refine va_get (D := D) (ci := 11) (v := .ref RO) (C := RX11) (T := TX11) (N := 10) hx hb hts iw_X11_lies_X11 hown hK hP 0 rfl rfl 5 (by decide) (hts (.fieldLink RX11 49 "SoldHouse" "routes" "LSoldHouse$Routes;") (List.mem_of_getElem? (i := 1) rfl)) (fun _ h9 => h9) rfl dX11_lies_6 ?_
    refine va_get (D := D) (ci := 7) (v := .int RO_lying) (C := RX7) (T := TX7) (N := 5) hx hb hts iw_X11_lies_X7 hown hK hP 1 rfl rfl 2 (by decide) (hts (.fieldLink RX11 187 "SoldHouse$Routes" "lying" "I") (List.mem_of_getElem? (i := 2) rfl)) (fun _ h9 => h9) rfl dX11_lies_9 ?_
    refine lv_icmp_lt (tgt := 19) hx hb dX11_lies_12 (by decide) (fun c12 => ?_) (fun c12 => ?_)
    · have bx12t_x0 : zB x0 0 7 := zB_ltu (zl c12) by1f_x0 b_RO_lying (by decide)
      have by12t_RO_lying : zB RO_lying 1 8 := zB_ltv (zl c12) bx12t_x0 b_RO_lying (by decide)
      refine lv_aload_n hx hb dX11_lies_19 rfl (lv_at hl 0 rfl) ?_
      refine va_get (D := D) (ci := 11) (v := .ref RO) (C := RX11) (T := TX11) (N := 10) hx hb hts iw_X11_lies_X11 hown hK hP 0 rfl rfl 5 (by decide) (hts (.fieldLink RX11 49 "SoldHouse" "routes" "LSoldHouse$Routes;") (List.mem_of_getElem? (i := 1) rfl)) (fun _ h9 => h9) rfl dX11_lies_20 ?_
      refine va_get (D := D) (ci := 7) (v := .ref (aRO 1)) (C := RX7) (T := TX7) (N := 5) hx hb hts iw_X11_lies_X7 hown hK hP 1 rfl rfl 1 (by decide) (hts (.fieldLink RX11 272 "SoldHouse$Routes" "lie" "[I") (List.mem_of_getElem? (i := 3) rfl)) (fun _ h9 => h9) rfl dX11_lies_23 ?_
      refine lv_iload_n hx hb dX11_lies_26 rfl (lv_at hl 1 rfl) ?_
      refine va_iald hx hb hK hP 2 0 rfl rfl (zB_in bx12t_x0 (by decide) (by decide)) dX11_lies_27 ?_
      refine lv_topi (fun y27 _ => ?_)
      exact W.iret (v := y27) hx hb hr (fun t ht hW => ⟨y27, rfl, trivial, ht⟩) (fun q hq => by cases hq) dX11_lies_28
    · refine lv_iconst (v := (-1)) hx hb dX11_lies_15 (by decide) ?_
      refine lv_goto (tgt := 28) hx hb dX11_lies_16 (by decide) ?_
      exact W.iret (v := (-1)) hx hb hr (fun t ht hW => ⟨(-1), rfl, trivial, ht⟩) (fun q hq => by cases hq) dX11_lies_28
set_option maxHeartbeats 4000000 in
set_option maxRecDepth 100000 in
theorem c_X11_heard (l : Launch) (D : va_G) (cI : ClassId) (cB : ClassId) (cL : ClassId) (cZ : ClassId) (cG : ClassId) (SO : Nat) (x0 : Int32) (x1 : Int32) (x2 : Int32) (PL : Nat) (DR : Nat) (TA : Nat) (RE : Nat) (FL : Nat) (RO : Nat) (HU : Nat) (ME : Nat) (TR : Nat) (NI : Nat) (aFL : Nat → Nat) (FL_parting : Int32) (PL_rooms : Int32) (aPL : Nat → Nat) (PL_doors : Int32) (PL_things : Int32) (FO : Nat) (PL_draw : Int32) (PL_drawTold : Int32) (PL_creaks : Nat → Int32) (NI_count : Int32) (NI_time : Int32) (aNI : Nat → Nat) (NI_minute : Nat → Int32) (NI_rooms : Nat → Int32) (NI_toldAt : Nat → Int32) (NI_untoldAt : Nat → Int32) (sz : Nat) (b_PL_rooms : zB PL_rooms 0 8) (b_PL_doors : zB PL_doors 0 12) (b_PL_things : zB PL_things 0 6) (b_NI_count : zB NI_count 0 30) (b_NI_time : zB NI_time 0 100000) (s_NI_minute_0 : zA NI_minute 0 30 0 7) : Met l yX11_heard wsX11_heard ({ frames := 1, cells := 0, slots := 0, locals := 23 }) (xp D [(cI, .int), (cB, .byte), (cL, .long), (cZ, .boolean), (cG, .array .int)] [(SO, .inr (11, oX11 PL DR TA RE FL RO HU ME TR NI)), (FL, .inr (0, oX0 PL aFL FL_parting)), (PL, .inr (5, oX5 FO aPL PL_rooms PL_doors PL_things PL_draw PL_drawTold)), ((aPL 2), .inl (cI, 8, .inl PL_creaks)), (NI, .inr (4, oX4 FL aNI NI_count NI_time)), ((aNI 3), .inl (cI, 30, .inl NI_minute)), ((aNI 4), .inl (cI, 30, .inl NI_rooms)), ((aNI 5), .inl (cI, 30, .inl NI_toldAt)), ((aNI 6), .inl (cI, 30, .inl NI_untoldAt))] sz [] [.ref SO, .int x0, .int x1, .int x2]) (va_Qi (fun (r : Int32) (_ : Unit) => zB r (-1) 29) (fun (_ : Unit) (t : State) => ∃ (nNI_count : Int32), ∃ (nNIminute : Nat → Int32), ∃ (nNIrooms : Nat → Int32), ∃ (nNItoldAt : Nat → Int32), ∃ (nNIuntoldAt : Nat → Int32), zB nNI_count 0 30 ∧ zA nNIminute 0 30 0 7 ∧ xB D (va_A [(SO, .inr (11, oX11 PL DR TA RE FL RO HU ME TR NI)), (FL, .inr (0, oX0 PL aFL FL_parting)), (PL, .inr (5, oX5 FO aPL PL_rooms PL_doors PL_things PL_draw PL_drawTold)), ((aPL 2), .inl (cI, 8, .inl PL_creaks)), (NI, .inr (4, oX4 FL aNI NI_count NI_time)), ((aNI 3), .inl (cI, 30, .inl NI_minute)), ((aNI 4), .inl (cI, 30, .inl NI_rooms)), ((aNI 5), .inl (cI, 30, .inl NI_toldAt)), ((aNI 6), .inl (cI, 30, .inl NI_untoldAt))] sz) [(SO, .inr (11, oX11 PL DR TA RE FL RO HU ME TR NI)), (FL, .inr (0, oX0 PL aFL FL_parting)), (PL, .inr (5, oX5 FO aPL PL_rooms PL_doors PL_things PL_draw PL_drawTold)), ((aPL 2), .inl (cI, 8, .inl PL_creaks)), (NI, .inr (4, oX4 FL aNI nNI_count NI_time)), ((aNI 3), .inl (cI, 30, .inl nNIminute)), ((aNI 4), .inl (cI, 30, .inl nNIrooms)), ((aNI 5), .inl (cI, 30, .inl nNItoldAt)), ((aNI 6), .inl (cI, 30, .inl nNIuntoldAt))] t) (va_A [(SO, .inr (11, oX11 PL DR TA RE FL RO HU ME TR NI)), (FL, .inr (0, oX0 PL aFL FL_parting)), (PL, .inr (5, oX5 FO aPL PL_rooms PL_doors PL_things PL_draw PL_drawTold)), ((aPL 2), .inl (cI, 8, .inl PL_creaks)), (NI, .inr (4, oX4 FL aNI NI_count NI_time)), ((aNI 3), .inl (cI, 30, .inl NI_minute)), ((aNI 4), .inl (cI, 30, .inl NI_rooms)), ((aNI 5), .inl (cI, 30, .inl NI_toldAt)), ((aNI 6), .inl (cI, 30, .inl NI_untoldAt))] sz)) 0 0 (va_A [(SO, .inr (11, oX11 PL DR TA RE FL RO HU ME TR NI)), (FL, .inr (0, oX0 PL aFL FL_parting)), (PL, .inr (5, oX5 FO aPL PL_rooms PL_doors PL_things PL_draw PL_drawTold)), ((aPL 2), .inl (cI, 8, .inl PL_creaks)), (NI, .inr (4, oX4 FL aNI NI_count NI_time)), ((aNI 3), .inl (cI, 30, .inl NI_minute)), ((aNI 4), .inl (cI, 30, .inl NI_rooms)), ((aNI 5), .inl (cI, 30, .inl NI_toldAt)), ((aNI 6), .inl (cI, 30, .inl NI_untoldAt))] sz) := by
  refine Met.ofW (cc := cX11_heard) (maxL := 4) (ret := (some .int)) (by decide) rfl ?_
  intro p e s m args below meth c s₁ B hml hv
  obtain ⟨rfl, hsz, hP, hK, hD0, hNw⟩ := hv
  have hx := B.exec
  have hb := B.bytes
  have hr := B.returns
  have hts := atoms_spec (ws := wsX11_heard) B.pre
  have hown : s.vm.findClass RX11 = some m.cls := findClass_of_methodNamed B.named
  have hlocks := B.notSynchronized
  clear B
  subst hsz
  have hD := hD0.self (sz := s.heap.size)
  clear hD0 hNw
  generalize hAe : va_A [(SO, .inr (11, oX11 PL DR TA RE FL RO HU ME TR NI)), (FL, .inr (0, oX0 PL aFL FL_parting)), (PL, .inr (5, oX5 FO aPL PL_rooms PL_doors PL_things PL_draw PL_drawTold)), ((aPL 2), .inl (cI, 8, .inl PL_creaks)), (NI, .inr (4, oX4 FL aNI NI_count NI_time)), ((aNI 3), .inl (cI, 30, .inl NI_minute)), ((aNI 4), .inl (cI, 30, .inl NI_rooms)), ((aNI 5), .inl (cI, 30, .inl NI_toldAt)), ((aNI 6), .inl (cI, 30, .inl NI_untoldAt))] s.heap.size = A at hD ⊢
  have hA : ∀ q : Nat, s.heap.size ≤ q → A q := fun q h => by rw [← hAe]; exact Or.inr h
  have hS : va_S A s.heap s.heap [] := va_S.rf
  clear hAe
  obtain ⟨H, hH⟩ : ∃ H : Heap, H = s.heap := ⟨_, rfl⟩
  obtain ⟨locs, hlocs⟩ : ∃ L : List Loc, L = [] := ⟨_, rfl⟩
  replace hP : va_P D classes [(SO, .inr (11, oX11 PL DR TA RE FL RO HU ME TR NI)), (FL, .inr (0, oX0 PL aFL FL_parting)), (PL, .inr (5, oX5 FO aPL PL_rooms PL_doors PL_things PL_draw PL_drawTold)), ((aPL 2), .inl (cI, 8, .inl PL_creaks)), (NI, .inr (4, oX4 FL aNI NI_count NI_time)), ((aNI 3), .inl (cI, 30, .inl NI_minute)), ((aNI 4), .inl (cI, 30, .inl NI_rooms)), ((aNI 5), .inl (cI, 30, .inl NI_toldAt)), ((aNI 6), .inl (cI, 30, .inl NI_untoldAt))] H := by rw [hH]; exact hP
  replace hS : va_S A s.heap H locs := by rw [hH, hlocs]; exact hS
  rw [← hH, ← hlocs]
  clear hlocs hH
  have hl := lv_entry ([.ref SO, .int x0, .int x1, .int x2]) (n := 4) (Nat.le_of_ble_eq_true rfl)
  rw [lg_entry_eq]
  generalize (lg_sl ([.ref SO, .int x0, .int x1, .int x2]) ++ List.replicate (4 - (lg_sl ([.ref SO, .int x0, .int x1, .int x2])).length) Slot.unset).toArray = ls at hl ⊢
  replace hl : lv_has ls 4 [(0, .ref SO), (1, .int x0), (2, .int x1), (3, .int x2)] := hl
  refine lv_iload_n hx hb dX11_heard_0 rfl (lv_at hl 2 rfl) ?_
  refine lv_if_lt (tgt := 17) hx hb dX11_heard_1 (by decide) (fun c1 => ?_) (fun c1 => ?_)
  · have bx1t_x1 : zB x1 (-2147483648) (-1) := zB_ltu (zl c1) (zB_top x1) (show zB 0 0 0 from ⟨by decide, by decide⟩) (by decide)
    refine lv_iconst (v := (-1)) hx hb dX11_heard_17 (by decide) ?_
    exact W.iret (v := (-1)) hx hb hr (fun t ht hW => ⟨⟨(-1), (), rfl, (zB_w (show zB (-1) (-1) (-1) from ⟨by decide, by decide⟩) (by decide) (by decide)), ⟨NI_count, NI_minute, NI_rooms, NI_toldAt, NI_untoldAt, b_NI_count, s_NI_minute_0, by rw [ht]; exact hP, hD⟩⟩, hS.F ht⟩) hS.2.2 dX11_heard_18
  · have by1f_x1 : zB x1 0 2147483647 := zB_lev (zg c1) (show zB 0 0 0 from ⟨by decide, by decide⟩) (zB_top x1) (by decide)
    refine lv_iload_n hx hb dX11_heard_4 rfl (lv_at hl 2 rfl) ?_
    refine lv_bipush (v := 9) hx hb dX11_heard_5 (by decide) ?_
    refine lv_icmp_gt (tgt := 17) hx hb dX11_heard_7 (by decide) (fun c7 => ?_) (fun c7 => ?_)
    · have by7t_x1 : zB x1 10 2147483647 := zB_ltv (zl c7) (show zB 9 9 9 from ⟨by decide, by decide⟩) by1f_x1 (by decide)
      refine lv_iconst (v := (-1)) hx hb dX11_heard_17 (by decide) ?_
      exact W.iret (v := (-1)) hx hb hr (fun t ht hW => ⟨⟨(-1), (), rfl, (zB_w (show zB (-1) (-1) (-1) from ⟨by decide, by decide⟩) (by decide) (by decide)), ⟨NI_count, NI_minute, NI_rooms, NI_toldAt, NI_untoldAt, b_NI_count, s_NI_minute_0, by rw [ht]; exact hP, hD⟩⟩, hS.F ht⟩) hS.2.2 dX11_heard_18
    · have bx7f_x1 : zB x1 0 9 := zB_leu (zg c7) by1f_x1 (show zB 9 9 9 from ⟨by decide, by decide⟩) (by decide)
      refine lv_iload_n hx hb dX11_heard_10 rfl (lv_at hl 1 rfl) ?_
      have hPc := hP.sub (ws' := []) [] rfl
      refine vp_callSi (va_runS (As := [.int x0]) (rest := []) ⟨hx, hb, hml, hown, hts⟩ (c_X11_isMinute l D cI cB cL cZ cG x0) (va_cwS 1 hts gX11_heard_X11_isMinute rfl rfl rfl (by decide +kernel) ⟨Nat.le_of_ble_eq_true rfl, Nat.le_of_ble_eq_true rfl⟩) ⟨xr_blind, fun U hU hW => xr_mk hU hW hPc hK⟩ rfl rfl hl.1 rfl (lv_room (Nat.le_of_ble_eq_true rfl)) dX11_heard_11 ⟨Nat.le_of_ble_eq_true rfl, Nat.le_of_ble_eq_true rfl⟩).run (fun r11 hr11 => ?_)
      clear hPc
      rcases hr11 with rfl | ⟨rfl, hr11_1_0⟩
      · refine lv_if_ne (tgt := 19) hx hb dX11_heard_14 (by decide) (fun c14 => absurd (by decide) c14) (fun _ => ?_)
        refine lv_iconst (v := (-1)) hx hb dX11_heard_17 (by decide) ?_
        exact W.iret (v := (-1)) hx hb hr (fun t ht hW => ⟨⟨(-1), (), rfl, (zB_w (show zB (-1) (-1) (-1) from ⟨by decide, by decide⟩) (by decide) (by decide)), ⟨NI_count, NI_minute, NI_rooms, NI_toldAt, NI_untoldAt, b_NI_count, s_NI_minute_0, by rw [ht]; exact hP, hD⟩⟩, hS.F ht⟩) hS.2.2 dX11_heard_18
      · refine lv_if_ne (tgt := 19) hx hb dX11_heard_14 (by decide) (fun _ => ?_) (fun c14 => absurd c14 (by decide))
        refine lv_aload_n hx hb dX11_heard_19 rfl (lv_at hl 0 rfl) ?_
        refine va_get (D := D) (ci := 11) (v := .ref NI) (C := RX11) (T := TX11) (N := 10) hx hb hts iw_X11_heard_X11 hown hK hP 0 rfl rfl 9 (by decide) (hts (.fieldLink RX11 79 "SoldHouse" "night" "LSoldHouse$Night;") (List.mem_of_getElem? (i := 1) rfl)) (fun _ h9 => h9) rfl dX11_heard_20 ?_
        refine lv_iload_n hx hb dX11_heard_23 rfl (lv_at hl 1 rfl) ?_
        refine lv_aload_n hx hb dX11_heard_24 rfl (lv_at hl 0 rfl) ?_
        refine va_get (D := D) (ci := 11) (v := .ref FL) (C := RX11) (T := TX11) (N := 10) hx hb hts iw_X11_heard_X11 hown hK hP 0 rfl rfl 4 (by decide) (hts (.fieldLink RX11 40 "SoldHouse" "floor" "LSoldHouse$Floor;") (List.mem_of_getElem? (i := 2) rfl)) (fun _ h9 => h9) rfl dX11_heard_25 ?_
        refine lv_iload_n hx hb dX11_heard_28 rfl (lv_at hl 2 rfl) ?_
        have hPc := hP.sub (ws' := [(FL, .inr (0, oX0 PL aFL FL_parting)), (PL, .inr (5, oX5 FO aPL PL_rooms PL_doors PL_things PL_draw PL_drawTold)), ((aPL 2), .inl (cI, 8, .inl PL_creaks))]) [1, 2, 3] rfl
        refine vp_callSi (va_runV (As := [.int x1]) (rest := [.int x0, .ref NI]) ⟨hx, hb, hml, hown, hts⟩ (c_X0_creakingRooms l D cI cB cL cZ cG FL x1 PL aFL FL_parting PL_rooms aPL PL_doors PL_things FO PL_draw PL_drawTold PL_creaks b_PL_rooms b_PL_doors b_PL_things) (cwV 1 hts gX11_heard_X0_creakingRooms rfl rfl rfl (by decide +kernel) ⟨Nat.le_of_ble_eq_true rfl, Nat.le_of_ble_eq_true rfl⟩) ⟨xr_blind, va_recv hK hP (ci := 0) (q0 := 1) rfl rfl, fun U hU hW => xr_mk hU hW hPc hK⟩ rfl rfl hl.1 rfl (lv_room (Nat.le_of_ble_eq_true rfl)) dX11_heard_29 ⟨Nat.le_of_ble_eq_true rfl, Nat.le_of_ble_eq_true rfl⟩).run (fun r29 hr29 => ?_)
        clear hPc
        refine lv_iload_n hx hb dX11_heard_32 rfl (lv_at hl 3 rfl) ?_
        have hPc := hP.sub (ws' := [(NI, .inr (4, oX4 FL aNI NI_count NI_time)), ((aNI 3), .inl (cI, 30, .inl NI_minute)), ((aNI 4), .inl (cI, 30, .inl NI_rooms)), ((aNI 5), .inl (cI, 30, .inl NI_toldAt)), ((aNI 6), .inl (cI, 30, .inl NI_untoldAt))]) [4, 5, 6, 7, 8] rfl
        have hDc := hD.sub (ws' := [(NI, .inr (4, oX4 FL aNI NI_count NI_time)), ((aNI 3), .inl (cI, 30, .inl NI_minute)), ((aNI 4), .inl (cI, 30, .inl NI_rooms)), ((aNI 5), .inl (cI, 30, .inl NI_toldAt)), ((aNI 6), .inl (cI, 30, .inl NI_untoldAt))]) [4, 5, 6, 7, 8] (by decide) rfl
        have hFc := va_free (wc := [(NI, .inr (4, oX4 FL aNI NI_count NI_time)), ((aNI 3), .inl (cI, 30, .inl NI_minute)), ((aNI 4), .inl (cI, 30, .inl NI_rooms)), ((aNI 5), .inl (cI, 30, .inl NI_toldAt)), ((aNI 6), .inl (cI, 30, .inl NI_untoldAt))]) hD hS hA [4, 5, 6, 7, 8] rfl
        refine va_calli (va_runV (As := [.int x0, .int r29, .int x2]) (rest := []) ⟨hx, hb, hml, hown, hts⟩ (c_X4_note l D cI cB cL cZ cG NI x0 r29 x2 FL NI_count NI_time aNI NI_minute NI_rooms NI_toldAt NI_untoldAt H.size hr11_1_0 b_NI_count b_NI_time s_NI_minute_0) (cwV 3 hts gX11_heard_X4_note rfl rfl rfl (by decide +kernel) ⟨Nat.le_of_ble_eq_true rfl, Nat.le_of_ble_eq_true rfl⟩) ⟨xp_blind, va_recv hK hP (ci := 4) (q0 := 4) rfl rfl, fun U hU hW => xp_mk hU hW hPc hK hDc xNw_nil⟩ rfl rfl hl.1 rfl (lv_room (Nat.le_of_ble_eq_true rfl)) dX11_heard_33 ⟨Nat.le_of_ble_eq_true rfl, Nat.le_of_ble_eq_true rfl⟩) hS (fun q _ h => hFc q h) hFc (fun r33 u9 t9 H1 locs ht9 hvm9 hr33 hB9 hz9 hk9 hS => ?_)
        obtain ⟨o33_nNI_count, o33_nNIminute, o33_nNIrooms, o33_nNItoldAt, o33_nNIuntoldAt, bo33_nNI_count, so33_nNIminute_0, hP1, hD1⟩ := hB9
        rw [ht9] at hP1
        obtain ⟨hP, hD⟩ := va_join (wr := [(SO, .inr (11, oX11 PL DR TA RE FL RO HU ME TR NI)), (FL, .inr (0, oX0 PL aFL FL_parting)), (PL, .inr (5, oX5 FO aPL PL_rooms PL_doors PL_things PL_draw PL_drawTold)), ((aPL 2), .inl (cI, 8, .inl PL_creaks))]) (w1 := [(NI, .inr (4, oX4 FL aNI o33_nNI_count NI_time)), ((aNI 3), .inl (cI, 30, .inl o33_nNIminute)), ((aNI 4), .inl (cI, 30, .inl o33_nNIrooms)), ((aNI 5), .inl (cI, 30, .inl o33_nNItoldAt)), ((aNI 6), .inl (cI, 30, .inl o33_nNIuntoldAt))]) hP hD [4, 5, 6, 7, 8] [0, 1, 2, 3] rfl rfl (by decide) (by decide) hk9 hFc hP1 hD1
        clear hz9 hPc hDc hP1 hD1 hk9 hFc ht9 hvm9 u9 t9
        generalize H1 = H at hP hS ⊢
        replace hP : va_P D classes [(SO, .inr (11, oX11 PL DR TA RE FL RO HU ME TR NI)), (FL, .inr (0, oX0 PL aFL FL_parting)), (PL, .inr (5, oX5 FO aPL PL_rooms PL_doors PL_things PL_draw PL_drawTold)), ((aPL 2), .inl (cI, 8, .inl PL_creaks)), (NI, .inr (4, oX4 FL aNI o33_nNI_count NI_time)), ((aNI 3), .inl (cI, 30, .inl o33_nNIminute)), ((aNI 4), .inl (cI, 30, .inl o33_nNIrooms)), ((aNI 5), .inl (cI, 30, .inl o33_nNItoldAt)), ((aNI 6), .inl (cI, 30, .inl o33_nNIuntoldAt))] H := hP
        replace hD : va_D A [(SO, .inr (11, oX11 PL DR TA RE FL RO HU ME TR NI)), (FL, .inr (0, oX0 PL aFL FL_parting)), (PL, .inr (5, oX5 FO aPL PL_rooms PL_doors PL_things PL_draw PL_drawTold)), ((aPL 2), .inl (cI, 8, .inl PL_creaks)), (NI, .inr (4, oX4 FL aNI o33_nNI_count NI_time)), ((aNI 3), .inl (cI, 30, .inl o33_nNIminute)), ((aNI 4), .inl (cI, 30, .inl o33_nNIrooms)), ((aNI 5), .inl (cI, 30, .inl o33_nNItoldAt)), ((aNI 6), .inl (cI, 30, .inl o33_nNIuntoldAt))] := hD
        exact W.iret (v := r33) hx hb hr (fun t ht hW => ⟨⟨r33, (), rfl, hr33, ⟨o33_nNI_count, o33_nNIminute, o33_nNIrooms, o33_nNItoldAt, o33_nNIuntoldAt, (zB_w bo33_nNI_count (by decide) (by decide)), so33_nNIminute_0, by rw [ht]; exact hP, hD⟩⟩, hS.F ht⟩) hS.2.2 dX11_heard_36
set_option maxHeartbeats 4000000 in
set_option maxRecDepth 100000 in
theorem c_X11_seen (l : Launch) (D : va_G) (cI : ClassId) (cB : ClassId) (cL : ClassId) (cZ : ClassId) (cG : ClassId) (SO : Nat) (x0 : Int32) (x1 : Int32) (x2 : Int32) (PL : Nat) (DR : Nat) (TA : Nat) (RE : Nat) (FL : Nat) (RO : Nat) (HU : Nat) (ME : Nat) (TR : Nat) (NI : Nat) (PL_rooms : Int32) (aPL : Nat → Nat) (PL_doors : Int32) (PL_things : Int32) (FO : Nat) (PL_draw : Int32) (PL_drawTold : Int32) (NI_count : Int32) (NI_time : Int32) (aNI : Nat → Nat) (NI_minute : Nat → Int32) (NI_rooms : Nat → Int32) (NI_toldAt : Nat → Int32) (NI_untoldAt : Nat → Int32) (sz : Nat) (b_PL_rooms : zB PL_rooms 0 8) (b_PL_doors : zB PL_doors 0 12) (b_PL_things : zB PL_things 0 6) (b_NI_count : zB NI_count 0 30) (b_NI_time : zB NI_time 0 100000) (s_NI_minute_0 : zA NI_minute 0 30 0 7) : Met l yX11_seen wsX11_seen ({ frames := 1, cells := 0, slots := 0, locals := 23 }) (xp D [(cI, .int), (cB, .byte), (cL, .long), (cZ, .boolean), (cG, .array .int)] [(SO, .inr (11, oX11 PL DR TA RE FL RO HU ME TR NI)), (PL, .inr (5, oX5 FO aPL PL_rooms PL_doors PL_things PL_draw PL_drawTold)), (NI, .inr (4, oX4 FL aNI NI_count NI_time)), ((aNI 3), .inl (cI, 30, .inl NI_minute)), ((aNI 4), .inl (cI, 30, .inl NI_rooms)), ((aNI 5), .inl (cI, 30, .inl NI_toldAt)), ((aNI 6), .inl (cI, 30, .inl NI_untoldAt))] sz [] [.ref SO, .int x0, .int x1, .int x2]) (va_Qi (fun (r : Int32) (_ : Unit) => zB r (-1) 29) (fun (_ : Unit) (t : State) => ∃ (nNI_count : Int32), ∃ (nNIminute : Nat → Int32), ∃ (nNIrooms : Nat → Int32), ∃ (nNItoldAt : Nat → Int32), ∃ (nNIuntoldAt : Nat → Int32), zB nNI_count 0 30 ∧ zA nNIminute 0 30 0 7 ∧ xB D (va_A [(SO, .inr (11, oX11 PL DR TA RE FL RO HU ME TR NI)), (PL, .inr (5, oX5 FO aPL PL_rooms PL_doors PL_things PL_draw PL_drawTold)), (NI, .inr (4, oX4 FL aNI NI_count NI_time)), ((aNI 3), .inl (cI, 30, .inl NI_minute)), ((aNI 4), .inl (cI, 30, .inl NI_rooms)), ((aNI 5), .inl (cI, 30, .inl NI_toldAt)), ((aNI 6), .inl (cI, 30, .inl NI_untoldAt))] sz) [(SO, .inr (11, oX11 PL DR TA RE FL RO HU ME TR NI)), (PL, .inr (5, oX5 FO aPL PL_rooms PL_doors PL_things PL_draw PL_drawTold)), (NI, .inr (4, oX4 FL aNI nNI_count NI_time)), ((aNI 3), .inl (cI, 30, .inl nNIminute)), ((aNI 4), .inl (cI, 30, .inl nNIrooms)), ((aNI 5), .inl (cI, 30, .inl nNItoldAt)), ((aNI 6), .inl (cI, 30, .inl nNIuntoldAt))] t) (va_A [(SO, .inr (11, oX11 PL DR TA RE FL RO HU ME TR NI)), (PL, .inr (5, oX5 FO aPL PL_rooms PL_doors PL_things PL_draw PL_drawTold)), (NI, .inr (4, oX4 FL aNI NI_count NI_time)), ((aNI 3), .inl (cI, 30, .inl NI_minute)), ((aNI 4), .inl (cI, 30, .inl NI_rooms)), ((aNI 5), .inl (cI, 30, .inl NI_toldAt)), ((aNI 6), .inl (cI, 30, .inl NI_untoldAt))] sz)) 0 0 (va_A [(SO, .inr (11, oX11 PL DR TA RE FL RO HU ME TR NI)), (PL, .inr (5, oX5 FO aPL PL_rooms PL_doors PL_things PL_draw PL_drawTold)), (NI, .inr (4, oX4 FL aNI NI_count NI_time)), ((aNI 3), .inl (cI, 30, .inl NI_minute)), ((aNI 4), .inl (cI, 30, .inl NI_rooms)), ((aNI 5), .inl (cI, 30, .inl NI_toldAt)), ((aNI 6), .inl (cI, 30, .inl NI_untoldAt))] sz) := by
  refine Met.ofW (cc := cX11_seen) (maxL := 4) (ret := (some .int)) (by decide) rfl ?_
  intro p e s m args below meth c s₁ B hml hv
  obtain ⟨rfl, hsz, hP, hK, hD0, hNw⟩ := hv
  have hx := B.exec
  have hb := B.bytes
  have hr := B.returns
  have hts := atoms_spec (ws := wsX11_seen) B.pre
  have hown : s.vm.findClass RX11 = some m.cls := findClass_of_methodNamed B.named
  have hlocks := B.notSynchronized
  clear B
  subst hsz
  have hD := hD0.self (sz := s.heap.size)
  clear hD0 hNw
  generalize hAe : va_A [(SO, .inr (11, oX11 PL DR TA RE FL RO HU ME TR NI)), (PL, .inr (5, oX5 FO aPL PL_rooms PL_doors PL_things PL_draw PL_drawTold)), (NI, .inr (4, oX4 FL aNI NI_count NI_time)), ((aNI 3), .inl (cI, 30, .inl NI_minute)), ((aNI 4), .inl (cI, 30, .inl NI_rooms)), ((aNI 5), .inl (cI, 30, .inl NI_toldAt)), ((aNI 6), .inl (cI, 30, .inl NI_untoldAt))] s.heap.size = A at hD ⊢
  have hA : ∀ q : Nat, s.heap.size ≤ q → A q := fun q h => by rw [← hAe]; exact Or.inr h
  have hS : va_S A s.heap s.heap [] := va_S.rf
  clear hAe
  obtain ⟨H, hH⟩ : ∃ H : Heap, H = s.heap := ⟨_, rfl⟩
  obtain ⟨locs, hlocs⟩ : ∃ L : List Loc, L = [] := ⟨_, rfl⟩
  replace hP : va_P D classes [(SO, .inr (11, oX11 PL DR TA RE FL RO HU ME TR NI)), (PL, .inr (5, oX5 FO aPL PL_rooms PL_doors PL_things PL_draw PL_drawTold)), (NI, .inr (4, oX4 FL aNI NI_count NI_time)), ((aNI 3), .inl (cI, 30, .inl NI_minute)), ((aNI 4), .inl (cI, 30, .inl NI_rooms)), ((aNI 5), .inl (cI, 30, .inl NI_toldAt)), ((aNI 6), .inl (cI, 30, .inl NI_untoldAt))] H := by rw [hH]; exact hP
  replace hS : va_S A s.heap H locs := by rw [hH, hlocs]; exact hS
  rw [← hH, ← hlocs]
  clear hlocs hH
  have hl := lv_entry ([.ref SO, .int x0, .int x1, .int x2]) (n := 4) (Nat.le_of_ble_eq_true rfl)
  rw [lg_entry_eq]
  generalize (lg_sl ([.ref SO, .int x0, .int x1, .int x2]) ++ List.replicate (4 - (lg_sl ([.ref SO, .int x0, .int x1, .int x2])).length) Slot.unset).toArray = ls at hl ⊢
  replace hl : lv_has ls 4 [(0, .ref SO), (1, .int x0), (2, .int x1), (3, .int x2)] := hl
  refine lv_aload_n hx hb dX11_seen_0 rfl (lv_at hl 0 rfl) ?_
  refine lv_iload_n hx hb dX11_seen_1 rfl (lv_at hl 2 rfl) ?_
  have hPc := hP.sub (ws' := [(SO, .inr (11, oX11 PL DR TA RE FL RO HU ME TR NI)), (PL, .inr (5, oX5 FO aPL PL_rooms PL_doors PL_things PL_draw PL_drawTold))]) [0, 1] rfl
  refine vp_callSi (va_runV (As := [.int x1]) (rest := []) ⟨hx, hb, hml, hown, hts⟩ (c_X11_isRoom l D cI cB cL cZ cG SO x1 PL DR TA RE FL RO HU ME TR NI PL_rooms aPL PL_doors PL_things FO PL_draw PL_drawTold b_PL_rooms b_PL_doors b_PL_things) (cwV 1 hts gX11_seen_X11_isRoom rfl rfl rfl (by decide +kernel) ⟨Nat.le_of_ble_eq_true rfl, Nat.le_of_ble_eq_true rfl⟩) ⟨xr_blind, va_recv hK hP (ci := 11) (q0 := 0) rfl rfl, fun U hU hW => xr_mk hU hW hPc hK⟩ rfl rfl hl.1 rfl (lv_room (Nat.le_of_ble_eq_true rfl)) dX11_seen_2 ⟨Nat.le_of_ble_eq_true rfl, Nat.le_of_ble_eq_true rfl⟩).run (fun r2 hr2 => ?_)
  clear hPc
  rcases hr2 with rfl | ⟨rfl, hr2_1_0⟩
  · refine lv_if_eq (tgt := 15) hx hb dX11_seen_5 (by decide) (fun _ => ?_) (fun c5 => absurd (by decide) c5)
    refine lv_iconst (v := (-1)) hx hb dX11_seen_15 (by decide) ?_
    exact W.iret (v := (-1)) hx hb hr (fun t ht hW => ⟨⟨(-1), (), rfl, (zB_w (show zB (-1) (-1) (-1) from ⟨by decide, by decide⟩) (by decide) (by decide)), ⟨NI_count, NI_minute, NI_rooms, NI_toldAt, NI_untoldAt, b_NI_count, s_NI_minute_0, by rw [ht]; exact hP, hD⟩⟩, hS.F ht⟩) hS.2.2 dX11_seen_16
  · refine lv_if_eq (tgt := 15) hx hb dX11_seen_5 (by decide) (fun c5 => absurd c5 (by decide)) (fun _ => ?_)
    refine lv_iload_n hx hb dX11_seen_8 rfl (lv_at hl 1 rfl) ?_
    have hPc := hP.sub (ws' := []) [] rfl
    refine vp_callSi (va_runS (As := [.int x0]) (rest := []) ⟨hx, hb, hml, hown, hts⟩ (c_X11_isMinute l D cI cB cL cZ cG x0) (va_cwS 1 hts gX11_seen_X11_isMinute rfl rfl rfl (by decide +kernel) ⟨Nat.le_of_ble_eq_true rfl, Nat.le_of_ble_eq_true rfl⟩) ⟨xr_blind, fun U hU hW => xr_mk hU hW hPc hK⟩ rfl rfl hl.1 rfl (lv_room (Nat.le_of_ble_eq_true rfl)) dX11_seen_9 ⟨Nat.le_of_ble_eq_true rfl, Nat.le_of_ble_eq_true rfl⟩).run (fun r9 hr9 => ?_)
    clear hPc
    rcases hr9 with rfl | ⟨rfl, hr9_1_0⟩
    · refine lv_if_ne (tgt := 17) hx hb dX11_seen_12 (by decide) (fun c12 => absurd (by decide) c12) (fun _ => ?_)
      refine lv_iconst (v := (-1)) hx hb dX11_seen_15 (by decide) ?_
      exact W.iret (v := (-1)) hx hb hr (fun t ht hW => ⟨⟨(-1), (), rfl, (zB_w (show zB (-1) (-1) (-1) from ⟨by decide, by decide⟩) (by decide) (by decide)), ⟨NI_count, NI_minute, NI_rooms, NI_toldAt, NI_untoldAt, b_NI_count, s_NI_minute_0, by rw [ht]; exact hP, hD⟩⟩, hS.F ht⟩) hS.2.2 dX11_seen_16
    · refine lv_if_ne (tgt := 17) hx hb dX11_seen_12 (by decide) (fun _ => ?_) (fun c12 => absurd c12 (by decide))
      refine lv_aload_n hx hb dX11_seen_17 rfl (lv_at hl 0 rfl) ?_
      refine va_get (D := D) (ci := 11) (v := .ref NI) (C := RX11) (T := TX11) (N := 10) hx hb hts iw_X11_seen_X11 hown hK hP 0 rfl rfl 9 (by decide) (hts (.fieldLink RX11 79 "SoldHouse" "night" "LSoldHouse$Night;") (List.mem_of_getElem? (i := 1) rfl)) (fun _ h9 => h9) rfl dX11_seen_18 ?_
      refine lv_iload_n hx hb dX11_seen_21 rfl (lv_at hl 1 rfl) ?_
      refine lv_iconst (v := 1) hx hb dX11_seen_22 (by decide) ?_
      refine lv_iload_n hx hb dX11_seen_23 rfl (lv_at hl 2 rfl) ?_
      refine lv_ishl hx hb dX11_seen_24 ?_
      refine zi_top (a := 1) (b := 128) (zB_shl1 hr2_1_0 (by decide) (by decide) (by decide) (by decide)) (fun y24 by24 => ?_)
      refine lv_iload_n hx hb dX11_seen_25 rfl (lv_at hl 3 rfl) ?_
      have hPc := hP.sub (ws' := [(NI, .inr (4, oX4 FL aNI NI_count NI_time)), ((aNI 3), .inl (cI, 30, .inl NI_minute)), ((aNI 4), .inl (cI, 30, .inl NI_rooms)), ((aNI 5), .inl (cI, 30, .inl NI_toldAt)), ((aNI 6), .inl (cI, 30, .inl NI_untoldAt))]) [2, 3, 4, 5, 6] rfl
      have hDc := hD.sub (ws' := [(NI, .inr (4, oX4 FL aNI NI_count NI_time)), ((aNI 3), .inl (cI, 30, .inl NI_minute)), ((aNI 4), .inl (cI, 30, .inl NI_rooms)), ((aNI 5), .inl (cI, 30, .inl NI_toldAt)), ((aNI 6), .inl (cI, 30, .inl NI_untoldAt))]) [2, 3, 4, 5, 6] (by decide) rfl
      have hFc := va_free (wc := [(NI, .inr (4, oX4 FL aNI NI_count NI_time)), ((aNI 3), .inl (cI, 30, .inl NI_minute)), ((aNI 4), .inl (cI, 30, .inl NI_rooms)), ((aNI 5), .inl (cI, 30, .inl NI_toldAt)), ((aNI 6), .inl (cI, 30, .inl NI_untoldAt))]) hD hS hA [2, 3, 4, 5, 6] rfl
      refine va_calli (va_runV (As := [.int x0, .int y24, .int x2]) (rest := []) ⟨hx, hb, hml, hown, hts⟩ (c_X4_note l D cI cB cL cZ cG NI x0 y24 x2 FL NI_count NI_time aNI NI_minute NI_rooms NI_toldAt NI_untoldAt H.size hr9_1_0 b_NI_count b_NI_time s_NI_minute_0) (cwV 3 hts gX11_seen_X4_note rfl rfl rfl (by decide +kernel) ⟨Nat.le_of_ble_eq_true rfl, Nat.le_of_ble_eq_true rfl⟩) ⟨xp_blind, va_recv hK hP (ci := 4) (q0 := 2) rfl rfl, fun U hU hW => xp_mk hU hW hPc hK hDc xNw_nil⟩ rfl rfl hl.1 rfl (lv_room (Nat.le_of_ble_eq_true rfl)) dX11_seen_26 ⟨Nat.le_of_ble_eq_true rfl, Nat.le_of_ble_eq_true rfl⟩) hS (fun q _ h => hFc q h) hFc (fun r26 u9 t9 H1 locs ht9 hvm9 hr26 hB9 hz9 hk9 hS => ?_)
      obtain ⟨o26_nNI_count, o26_nNIminute, o26_nNIrooms, o26_nNItoldAt, o26_nNIuntoldAt, bo26_nNI_count, so26_nNIminute_0, hP1, hD1⟩ := hB9
      rw [ht9] at hP1
      obtain ⟨hP, hD⟩ := va_join (wr := [(SO, .inr (11, oX11 PL DR TA RE FL RO HU ME TR NI)), (PL, .inr (5, oX5 FO aPL PL_rooms PL_doors PL_things PL_draw PL_drawTold))]) (w1 := [(NI, .inr (4, oX4 FL aNI o26_nNI_count NI_time)), ((aNI 3), .inl (cI, 30, .inl o26_nNIminute)), ((aNI 4), .inl (cI, 30, .inl o26_nNIrooms)), ((aNI 5), .inl (cI, 30, .inl o26_nNItoldAt)), ((aNI 6), .inl (cI, 30, .inl o26_nNIuntoldAt))]) hP hD [2, 3, 4, 5, 6] [0, 1] rfl rfl (by decide) (by decide) hk9 hFc hP1 hD1
      clear hz9 hPc hDc hP1 hD1 hk9 hFc ht9 hvm9 u9 t9
      generalize H1 = H at hP hS ⊢
      replace hP : va_P D classes [(SO, .inr (11, oX11 PL DR TA RE FL RO HU ME TR NI)), (PL, .inr (5, oX5 FO aPL PL_rooms PL_doors PL_things PL_draw PL_drawTold)), (NI, .inr (4, oX4 FL aNI o26_nNI_count NI_time)), ((aNI 3), .inl (cI, 30, .inl o26_nNIminute)), ((aNI 4), .inl (cI, 30, .inl o26_nNIrooms)), ((aNI 5), .inl (cI, 30, .inl o26_nNItoldAt)), ((aNI 6), .inl (cI, 30, .inl o26_nNIuntoldAt))] H := hP
      replace hD : va_D A [(SO, .inr (11, oX11 PL DR TA RE FL RO HU ME TR NI)), (PL, .inr (5, oX5 FO aPL PL_rooms PL_doors PL_things PL_draw PL_drawTold)), (NI, .inr (4, oX4 FL aNI o26_nNI_count NI_time)), ((aNI 3), .inl (cI, 30, .inl o26_nNIminute)), ((aNI 4), .inl (cI, 30, .inl o26_nNIrooms)), ((aNI 5), .inl (cI, 30, .inl o26_nNItoldAt)), ((aNI 6), .inl (cI, 30, .inl o26_nNIuntoldAt))] := hD
      exact W.iret (v := r26) hx hb hr (fun t ht hW => ⟨⟨r26, (), rfl, hr26, ⟨o26_nNI_count, o26_nNIminute, o26_nNIrooms, o26_nNItoldAt, o26_nNIuntoldAt, (zB_w bo26_nNI_count (by decide) (by decide)), so26_nNIminute_0, by rw [ht]; exact hP, hD⟩⟩, hS.F ht⟩) hS.2.2 dX11_seen_29
set_option maxHeartbeats 4000000 in
set_option maxRecDepth 100000 in
theorem c_X11_untell (l : Launch) (D : va_G) (cI : ClassId) (cB : ClassId) (cL : ClassId) (cZ : ClassId) (cG : ClassId) (SO : Nat) (x0 : Int32) (PL : Nat) (DR : Nat) (TA : Nat) (RE : Nat) (FL : Nat) (RO : Nat) (HU : Nat) (ME : Nat) (TR : Nat) (NI : Nat) (NI_count : Int32) (NI_time : Int32) (aNI : Nat → Nat) (NI_untoldAt : Nat → Int32) (sz : Nat) (b_NI_count : zB NI_count 0 30) (b_NI_time : zB NI_time 0 100000) : Met l yX11_untell wsX11_untell ({ frames := 1, cells := 0, slots := 0, locals := 21 }) (xp D [(cI, .int), (cB, .byte), (cL, .long), (cZ, .boolean), (cG, .array .int)] [(SO, .inr (11, oX11 PL DR TA RE FL RO HU ME TR NI)), (NI, .inr (4, oX4 FL aNI NI_count NI_time)), ((aNI 6), .inl (cI, 30, .inl NI_untoldAt))] sz [] [.ref SO, .int x0]) (va_Qi (fun (r : Int32) (_ : Unit) => (r = 0) ∨ (r = 1 ∧ zB x0 0 29)) (fun (_ : Unit) (t : State) => ∃ (nNIuntoldAt : Nat → Int32), xB D (va_A [(SO, .inr (11, oX11 PL DR TA RE FL RO HU ME TR NI)), (NI, .inr (4, oX4 FL aNI NI_count NI_time)), ((aNI 6), .inl (cI, 30, .inl NI_untoldAt))] sz) [(SO, .inr (11, oX11 PL DR TA RE FL RO HU ME TR NI)), (NI, .inr (4, oX4 FL aNI NI_count NI_time)), ((aNI 6), .inl (cI, 30, .inl nNIuntoldAt))] t) (va_A [(SO, .inr (11, oX11 PL DR TA RE FL RO HU ME TR NI)), (NI, .inr (4, oX4 FL aNI NI_count NI_time)), ((aNI 6), .inl (cI, 30, .inl NI_untoldAt))] sz)) 0 0 (va_A [(SO, .inr (11, oX11 PL DR TA RE FL RO HU ME TR NI)), (NI, .inr (4, oX4 FL aNI NI_count NI_time)), ((aNI 6), .inl (cI, 30, .inl NI_untoldAt))] sz) := by
  refine Met.ofW (cc := cX11_untell) (maxL := 2) (ret := (some .boolean)) (by decide) rfl ?_
  intro p e s m args below meth c s₁ B hml hv
  obtain ⟨rfl, hsz, hP, hK, hD0, hNw⟩ := hv
  have hx := B.exec
  have hb := B.bytes
  have hr := B.returns
  have hts := atoms_spec (ws := wsX11_untell) B.pre
  have hown : s.vm.findClass RX11 = some m.cls := findClass_of_methodNamed B.named
  have hlocks := B.notSynchronized
  clear B
  subst hsz
  have hD := hD0.self (sz := s.heap.size)
  clear hD0 hNw
  generalize hAe : va_A [(SO, .inr (11, oX11 PL DR TA RE FL RO HU ME TR NI)), (NI, .inr (4, oX4 FL aNI NI_count NI_time)), ((aNI 6), .inl (cI, 30, .inl NI_untoldAt))] s.heap.size = A at hD ⊢
  have hA : ∀ q : Nat, s.heap.size ≤ q → A q := fun q h => by rw [← hAe]; exact Or.inr h
  have hS : va_S A s.heap s.heap [] := va_S.rf
  clear hAe
  obtain ⟨H, hH⟩ : ∃ H : Heap, H = s.heap := ⟨_, rfl⟩
  obtain ⟨locs, hlocs⟩ : ∃ L : List Loc, L = [] := ⟨_, rfl⟩
  replace hP : va_P D classes [(SO, .inr (11, oX11 PL DR TA RE FL RO HU ME TR NI)), (NI, .inr (4, oX4 FL aNI NI_count NI_time)), ((aNI 6), .inl (cI, 30, .inl NI_untoldAt))] H := by rw [hH]; exact hP
  replace hS : va_S A s.heap H locs := by rw [hH, hlocs]; exact hS
  rw [← hH, ← hlocs]
  clear hlocs hH
  have hl := lv_entry ([.ref SO, .int x0]) (n := 2) (Nat.le_of_ble_eq_true rfl)
  rw [lg_entry_eq]
  generalize (lg_sl ([.ref SO, .int x0]) ++ List.replicate (2 - (lg_sl ([.ref SO, .int x0])).length) Slot.unset).toArray = ls at hl ⊢
  replace hl : lv_has ls 2 [(0, .ref SO), (1, .int x0)] := hl
  refine lv_aload_n hx hb dX11_untell_0 rfl (lv_at hl 0 rfl) ?_
  refine va_get (D := D) (ci := 11) (v := .ref NI) (C := RX11) (T := TX11) (N := 10) hx hb hts iw_X11_untell_X11 hown hK hP 0 rfl rfl 9 (by decide) (hts (.fieldLink RX11 79 "SoldHouse" "night" "LSoldHouse$Night;") (List.mem_of_getElem? (i := 1) rfl)) (fun _ h9 => h9) rfl dX11_untell_1 ?_
  refine lv_iload_n hx hb dX11_untell_4 rfl (lv_at hl 1 rfl) ?_
  have hPc := hP.sub (ws' := [(NI, .inr (4, oX4 FL aNI NI_count NI_time)), ((aNI 6), .inl (cI, 30, .inl NI_untoldAt))]) [1, 2] rfl
  have hDc := hD.sub (ws' := [(NI, .inr (4, oX4 FL aNI NI_count NI_time)), ((aNI 6), .inl (cI, 30, .inl NI_untoldAt))]) [1, 2] (by decide) rfl
  have hFc := va_free (wc := [(NI, .inr (4, oX4 FL aNI NI_count NI_time)), ((aNI 6), .inl (cI, 30, .inl NI_untoldAt))]) hD hS hA [1, 2] rfl
  refine va_calli (va_runV (As := [.int x0]) (rest := []) ⟨hx, hb, hml, hown, hts⟩ (c_X4_takeBack l D cI cB cL cZ cG NI x0 FL NI_count NI_time aNI NI_untoldAt H.size b_NI_count b_NI_time) (cwV 1 hts gX11_untell_X4_takeBack rfl rfl rfl (by decide +kernel) ⟨Nat.le_of_ble_eq_true rfl, Nat.le_of_ble_eq_true rfl⟩) ⟨xp_blind, va_recv hK hP (ci := 4) (q0 := 1) rfl rfl, fun U hU hW => xp_mk hU hW hPc hK hDc xNw_nil⟩ rfl rfl hl.1 rfl (lv_room (Nat.le_of_ble_eq_true rfl)) dX11_untell_5 ⟨Nat.le_of_ble_eq_true rfl, Nat.le_of_ble_eq_true rfl⟩) hS (fun q _ h => hFc q h) hFc (fun r5 u9 t9 H1 locs ht9 hvm9 hr5 hB9 hz9 hk9 hS => ?_)
  obtain ⟨o5_nNIuntoldAt, hP1, hD1⟩ := hB9
  rw [ht9] at hP1
  obtain ⟨hP, hD⟩ := va_join (wr := [(SO, .inr (11, oX11 PL DR TA RE FL RO HU ME TR NI))]) (w1 := [(NI, .inr (4, oX4 FL aNI NI_count NI_time)), ((aNI 6), .inl (cI, 30, .inl o5_nNIuntoldAt))]) hP hD [1, 2] [0] rfl rfl (by decide) (by decide) hk9 hFc hP1 hD1
  clear hz9 hPc hDc hP1 hD1 hk9 hFc ht9 hvm9 u9 t9
  generalize H1 = H at hP hS ⊢
  replace hP : va_P D classes [(SO, .inr (11, oX11 PL DR TA RE FL RO HU ME TR NI)), (NI, .inr (4, oX4 FL aNI NI_count NI_time)), ((aNI 6), .inl (cI, 30, .inl o5_nNIuntoldAt))] H := hP
  replace hD : va_D A [(SO, .inr (11, oX11 PL DR TA RE FL RO HU ME TR NI)), (NI, .inr (4, oX4 FL aNI NI_count NI_time)), ((aNI 6), .inl (cI, 30, .inl o5_nNIuntoldAt))] := hD
  rcases hr5 with rfl | ⟨rfl, hr5_1_0⟩
  · exact W.zret (v := 0) (ty := .boolean) hx hb hr (by decide) (fun t ht hW => ⟨⟨0, (), rfl, Or.inl rfl, ⟨o5_nNIuntoldAt, by rw [ht]; exact hP, hD⟩⟩, hS.F ht⟩) hS.2.2 dX11_untell_8
  · exact W.zret (v := 1) (ty := .boolean) hx hb hr (by decide) (fun t ht hW => ⟨⟨1, (), rfl, Or.inr (⟨rfl, hr5_1_0⟩), ⟨o5_nNIuntoldAt, by rw [ht]; exact hP, hD⟩⟩, hS.F ht⟩) hS.2.2 dX11_untell_8
