set_option maxHeartbeats 4000000 in
set_option maxRecDepth 100000 in
theorem m_seen (l : Launch) (D : va_G) (cI : ClassId) (cB : ClassId) (cL : ClassId) (cZ : ClassId) (a0 : Nat) (ad : Nat → Nat) (v3 : Int32) (v6 : Int32) (v7 : Int32) (v8 : Int32) (v9 : Int32) (v36 : Int32) (v37 : Int32) (v38 : Int32) (v39 : Int32) (v40 : Int32) (v41 : Int32) (vN : Int64) (fR : Nat → Int32) (x : Int32) (y : Int32) (z : Int32) (hf_fR_0 : fR 0 = 0) : Met l yX12_seen wsX12_seen ({ frames := 2, cells := 0, slots := 0, locals := 43 }) (xr D [(cI, .int), (cB, .byte), (cL, .long), (cZ, .boolean)] [(a0, .inr (12, MF ad 0 v3 0 (-1) v6 v7 v8 v9 vN 0 v36 v37 v38 v39 v40 v41 0 0 0 0 0)), ((ad 11), .inl (cI, 2, .inl fR))] [.ref a0, .int x, .int y, .int z]) (vp_Si (fun r => r = (-1))) 0 0 (fun _ => False) := by
  refine Met.ofW (cc := cX12_seen) (maxL := 4) (ret := (some .int)) (by decide) rfl ?_
  intro p e s m args below meth c s₁ B hml hv
  obtain ⟨rfl, hP, hK⟩ := hv
  have hx := B.exec
  have hb := B.bytes
  have hr := B.returns
  have hts := atoms_spec (ws := wsX12_seen) B.pre
  have hown : s.vm.findClass RX12 = some m.cls := findClass_of_methodNamed B.named
  have hlocks := B.notSynchronized
  have hl := lv_entry ([.ref a0, .int x, .int y, .int z]) (n := 4) (Nat.le_of_ble_eq_true rfl)
  rw [lg_entry_eq]
  generalize (lg_sl ([.ref a0, .int x, .int y, .int z]) ++ List.replicate (4 - (lg_sl ([.ref a0, .int x, .int y, .int z])).length) Slot.unset).toArray = ls at hl ⊢
  replace hl : lv_has ls 4 [(0, .ref a0), (1, .int x), (2, .int y), (3, .int z)] := hl
  refine lv_aload_n hx hb dX12_seen_0 rfl (lv_at hl 0 rfl) ?_
  refine lv_iload_n hx hb dX12_seen_1 rfl (lv_at hl 2 rfl) ?_
  have hPc := hP.sub (ws' := [(a0, .inr (12, MF ad 0 v3 0 (-1) v6 v7 v8 v9 vN 0 v36 v37 v38 v39 v40 v41 0 0 0 0 0)), ((ad 11), .inl (cI, 2, .inl fR))]) [0, 1] rfl
  refine vp_callSi (va_runV (As := [.int y]) (rest := []) ⟨hx, hb, hml, hown, hts⟩ (m_isRoom l D cI cB cL cZ a0 ad v3 v6 v7 v8 v9 v36 v37 v38 v39 v40 v41 vN fR y hf_fR_0) (cwV 1 hts gX12_seen_X12_isRoom rfl rfl rfl (by decide +kernel) ⟨Nat.le_of_ble_eq_true rfl, Nat.le_of_ble_eq_true rfl⟩) ⟨xr_blind, va_recv hK hPc (ci := 12) (q0 := 0) rfl rfl, fun U hU hW => xr_mk hU hW hPc hK⟩ rfl rfl hl.1 rfl (lv_room (Nat.le_of_ble_eq_true rfl)) dX12_seen_2 ⟨Nat.le_of_ble_eq_true rfl, Nat.le_of_ble_eq_true rfl⟩).run (fun r_1 hr_1 => ?_)
  clear hPc
  subst hr_1
  refine lv_if_eq (tgt := 19) hx hb dX12_seen_5 (by decide) (fun _ => ?_) (fun c_2 => absurd (by decide) c_2)
  refine lv_iconst (v := (-1)) hx hb dX12_seen_19 (by decide) ?_
  exact W.iret (v := (-1)) hx hb hr (fun t ht hW => ⟨(-1), rfl, rfl, ht⟩) (fun q hq => by cases hq) dX12_seen_20
set_option maxHeartbeats 4000000 in
set_option maxRecDepth 100000 in
theorem m_untell (l : Launch) (D : va_G) (cI : ClassId) (cB : ClassId) (cL : ClassId) (cZ : ClassId) (a0 : Nat) (ad : Nat → Nat) (v3 : Int32) (v6 : Int32) (v7 : Int32) (v8 : Int32) (v9 : Int32) (v36 : Int32) (v37 : Int32) (v38 : Int32) (v39 : Int32) (v40 : Int32) (v41 : Int32) (vN : Int64) (x : Int32) : Met l yX12_untell wsX12_untell ({ frames := 1, cells := 0, slots := 0, locals := 22 }) (xr D [(cI, .int), (cB, .byte), (cL, .long), (cZ, .boolean)] [(a0, .inr (12, MF ad 0 v3 0 (-1) v6 v7 v8 v9 vN 0 v36 v37 v38 v39 v40 v41 0 0 0 0 0))] [.ref a0, .int x]) (vp_Si (fun r => r = 0)) 0 0 (fun _ => False) := by
  refine Met.ofW (cc := cX12_untell) (maxL := 2) (ret := (some .boolean)) (by decide) rfl ?_
  intro p e s m args below meth c s₁ B hml hv
  obtain ⟨rfl, hP, hK⟩ := hv
  have hx := B.exec
  have hb := B.bytes
  have hr := B.returns
  have hts := atoms_spec (ws := wsX12_untell) B.pre
  have hown : s.vm.findClass RX12 = some m.cls := findClass_of_methodNamed B.named
  have hlocks := B.notSynchronized
  have hl := lv_entry ([.ref a0, .int x]) (n := 2) (Nat.le_of_ble_eq_true rfl)
  rw [lg_entry_eq]
  generalize (lg_sl ([.ref a0, .int x]) ++ List.replicate (2 - (lg_sl ([.ref a0, .int x])).length) Slot.unset).toArray = ls at hl ⊢
  replace hl : lv_has ls 2 [(0, .ref a0), (1, .int x)] := hl
  refine lv_iload_n hx hb dX12_untell_0 rfl (lv_at hl 1 rfl) ?_
  refine lv_iconst (v := 0) hx hb dX12_untell_1 (by decide) ?_
  refine lv_aload_n hx hb dX12_untell_2 rfl (lv_at hl 0 rfl) ?_
  refine va_get (D := D) (ci := 12) (v := .int 0) (C := RX12) (T := TX12) (N := 71) hx hb hts iw_X12_untell_X12 hown hK hP 0 rfl rfl 67 (by decide) (hts (.fieldLink RX12 415 "SoldHouseModel" "heards" "I") (List.mem_of_getElem? (i := 1) rfl)) (fun _ h9 => h9) rfl dX12_untell_3 ?_
  refine lv_iconst (v := 1) hx hb dX12_untell_6 (by decide) ?_
  refine lv_isub hx hb dX12_untell_7 ?_
  refine lv_topi (fun y_1 ey_1 => ?_)
  obtain rfl : y_1 = (-1) := ey_1.trans (by decide)
  have hPc := hP.sub (ws' := []) [] rfl
  refine vp_callSi (va_runS (As := [.int x, .int 0, .int (-1)]) (rest := []) ⟨hx, hb, hml, hown, hts⟩ (m_isIn l D cI cB cL cZ x 0 ((-1))) (va_cwS 3 hts gX12_untell_X12_isIn rfl rfl rfl (by decide +kernel) ⟨Nat.le_of_ble_eq_true rfl, Nat.le_of_ble_eq_true rfl⟩) ⟨xr_blind, fun U hU hW => xr_mk hU hW hPc hK⟩ rfl rfl hl.1 rfl (lv_room (Nat.le_of_ble_eq_true rfl)) dX12_untell_8 ⟨Nat.le_of_ble_eq_true rfl, Nat.le_of_ble_eq_true rfl⟩).run (fun r_2 hr_2 => ?_)
  clear hPc
  rcases hr_2 with ⟨rfl, hr_2_0, hr_2_1⟩ | ⟨rfl, hr_2_0⟩ | ⟨rfl, hr_2_0, hr_2_1⟩
  · exact (zz_ab1 hr_2_0 hr_2_1 (by decide)).elim
  · refine lv_if_eq (tgt := 23) hx hb dX12_untell_11 (by decide) (fun _ => ?_) (fun c_3 => absurd (by decide) c_3)
    refine lv_iconst (v := 0) hx hb dX12_untell_23 (by decide) ?_
    exact W.zret (v := 0) (ty := .boolean) hx hb hr (by decide) (fun t ht hW => ⟨0, rfl, rfl, ht⟩) (fun q hq => by cases hq) dX12_untell_24
  · refine lv_if_eq (tgt := 23) hx hb dX12_untell_11 (by decide) (fun _ => ?_) (fun c_4 => absurd (by decide) c_4)
    refine lv_iconst (v := 0) hx hb dX12_untell_23 (by decide) ?_
    exact W.zret (v := 0) (ty := .boolean) hx hb hr (by decide) (fun t ht hW => ⟨0, rfl, rfl, ht⟩) (fun q hq => by cases hq) dX12_untell_24
set_option maxHeartbeats 4000000 in
set_option maxRecDepth 100000 in
theorem m_openAt (l : Launch) (D : va_G) (cI : ClassId) (cB : ClassId) (cL : ClassId) (cZ : ClassId) (a0 : Nat) (ad : Nat → Nat) (v3 : Int32) (v6 : Int32) (v7 : Int32) (v8 : Int32) (v9 : Int32) (v36 : Int32) (v37 : Int32) (v38 : Int32) (v39 : Int32) (v40 : Int32) (v41 : Int32) (vN : Int64) (fR : Nat → Int32) (x : Int32) (y : Int32) (hf_fR_0 : fR 0 = 0) : Met l yX12_openAt wsX12_openAt ({ frames := 1, cells := 0, slots := 0, locals := 20 }) (xr D [(cI, .int), (cB, .byte), (cL, .long), (cZ, .boolean)] [(a0, .inr (12, MF ad 0 v3 0 (-1) v6 v7 v8 v9 vN 0 v36 v37 v38 v39 v40 v41 0 0 0 0 0)), ((ad 11), .inl (cI, 2, .inl fR))] [.ref a0, .int x, .int y]) (vp_Si (fun r => r = 0)) 0 0 (fun _ => False) := by
  refine Met.ofW (cc := cX12_openAt) (maxL := 7) (ret := (some .int)) (by decide) rfl ?_
  intro p e s m args below meth c s₁ B hml hv
  obtain ⟨rfl, hP, hK⟩ := hv
  have hx := B.exec
  have hb := B.bytes
  have hr := B.returns
  have hts := atoms_spec (ws := wsX12_openAt) B.pre
  have hown : s.vm.findClass RX12 = some m.cls := findClass_of_methodNamed B.named
  have hlocks := B.notSynchronized
  have hl := lv_entry ([.ref a0, .int x, .int y]) (n := 7) (Nat.le_of_ble_eq_true rfl)
  rw [lg_entry_eq]
  generalize (lg_sl ([.ref a0, .int x, .int y]) ++ List.replicate (7 - (lg_sl ([.ref a0, .int x, .int y])).length) Slot.unset).toArray = ls at hl ⊢
  replace hl : lv_has ls 7 [(0, .ref a0), (1, .int x), (2, .int y)] := hl
  refine lv_iconst (v := 1) hx hb dX12_openAt_0 (by decide) ?_
  refine lv_aload_n hx hb dX12_openAt_1 rfl (lv_at hl 0 rfl) ?_
  have hPc := hP.sub (ws' := [(a0, .inr (12, MF ad 0 v3 0 (-1) v6 v7 v8 v9 vN 0 v36 v37 v38 v39 v40 v41 0 0 0 0 0)), ((ad 11), .inl (cI, 2, .inl fR))]) [0, 1] rfl
  refine vp_callSi (va_runV (As := []) (rest := [.int 1]) ⟨hx, hb, hml, hown, hts⟩ (m_places l D cI cB cL cZ a0 ad v3 v6 v7 v8 v9 v36 v37 v38 v39 v40 v41 vN fR hf_fR_0) (cwV 0 hts gX12_openAt_X12_places rfl rfl rfl (by decide +kernel) ⟨Nat.le_of_ble_eq_true rfl, Nat.le_of_ble_eq_true rfl⟩) ⟨xr_blind, va_recv hK hPc (ci := 12) (q0 := 0) rfl rfl, fun U hU hW => xr_mk hU hW hPc hK⟩ rfl rfl hl.1 rfl (lv_room (Nat.le_of_ble_eq_true rfl)) dX12_openAt_2 ⟨Nat.le_of_ble_eq_true rfl, Nat.le_of_ble_eq_true rfl⟩).run (fun r_1 hr_1 => ?_)
  clear hPc
  subst hr_1
  refine lv_ishl hx hb dX12_openAt_5 ?_
  refine lv_topi (fun y_2 ey_2 => ?_)
  obtain rfl : y_2 = 1 := ey_2.trans (by decide)
  refine lv_iconst (v := 1) hx hb dX12_openAt_6 (by decide) ?_
  refine lv_isub hx hb dX12_openAt_7 ?_
  refine lv_topi (fun y_3 ey_3 => ?_)
  obtain rfl : y_3 = 0 := ey_3.trans (by decide)
  refine lv_istore_n (lv' := [(3, .int 0), (0, .ref a0), (1, .int x), (2, .int y)]) hx hb dX12_openAt_8 rfl hl (by decide) rfl (fun ls hl => ?_)
  refine lv_iconst (v := 0) hx hb dX12_openAt_9 (by decide) ?_
  refine lv_istore (lv' := [(4, .int 0), (3, .int 0), (0, .ref a0), (1, .int x), (2, .int y)]) hx hb dX12_openAt_10 hl (by decide) rfl (fun ls hl => ?_)
  refine lv_iload hx hb dX12_openAt_12 (lv_at hl 0 rfl) ?_
  refine lv_aload_n hx hb dX12_openAt_14 rfl (lv_at hl 2 rfl) ?_
  refine va_get (D := D) (ci := 12) (v := .int 0) (C := RX12) (T := TX12) (N := 71) hx hb hts iw_X12_openAt_X12 hown hK hP 0 rfl rfl 67 (by decide) (hts (.fieldLink RX12 415 "SoldHouseModel" "heards" "I") (List.mem_of_getElem? (i := 1) rfl)) (fun _ h9 => h9) rfl dX12_openAt_15 ?_
  refine lv_icmp_ge (tgt := 174) hx hb dX12_openAt_18 (by decide) (fun _ => ?_) (fun c_4 => absurd (by decide) c_4)
  refine lv_iload_n hx hb dX12_openAt_174 rfl (lv_at hl 1 rfl) ?_
  exact W.iret (v := 0) hx hb hr (fun t ht hW => ⟨0, rfl, rfl, ht⟩) (fun q hq => by cases hq) dX12_openAt_175
set_option maxHeartbeats 4000000 in
set_option maxRecDepth 100000 in
theorem m_stepOn (l : Launch) (D : va_G) (cI : ClassId) (cB : ClassId) (cL : ClassId) (cZ : ClassId) (a0 : Nat) (ad : Nat → Nat) (v3 : Int32) (v6 : Int32) (v7 : Int32) (v8 : Int32) (v9 : Int32) (v36 : Int32) (v37 : Int32) (v38 : Int32) (v39 : Int32) (v40 : Int32) (v41 : Int32) (vN : Int64) (fR : Nat → Int32) (x : Int32) (hf_fR_0 : fR 0 = 0) : Met l yX12_stepOn wsX12_stepOn ({ frames := 1, cells := 0, slots := 0, locals := 20 }) (xr D [(cI, .int), (cB, .byte), (cL, .long), (cZ, .boolean)] [(a0, .inr (12, MF ad 0 v3 0 (-1) v6 v7 v8 v9 vN 0 v36 v37 v38 v39 v40 v41 0 0 0 0 0)), ((ad 11), .inl (cI, 2, .inl fR))] [.ref a0, .int x]) (va_Sv (fun _ => True)) 0 0 (fun _ => False) := by
  refine Met.ofW (cc := cX12_stepOn) (maxL := 5) (ret := none) (by decide) rfl ?_
  intro p e s m args below meth c s₁ B hml hv
  obtain ⟨rfl, hP, hK⟩ := hv
  have hx := B.exec
  have hb := B.bytes
  have hr := B.returns
  have hts := atoms_spec (ws := wsX12_stepOn) B.pre
  have hown : s.vm.findClass RX12 = some m.cls := findClass_of_methodNamed B.named
  have hlocks := B.notSynchronized
  have hl := lv_entry ([.ref a0, .int x]) (n := 5) (Nat.le_of_ble_eq_true rfl)
  rw [lg_entry_eq]
  generalize (lg_sl ([.ref a0, .int x]) ++ List.replicate (5 - (lg_sl ([.ref a0, .int x])).length) Slot.unset).toArray = ls at hl ⊢
  replace hl : lv_has ls 5 [(0, .ref a0), (1, .int x)] := hl
  refine lv_iconst (v := 0) hx hb dX12_stepOn_0 (by decide) ?_
  refine lv_istore_n (lv' := [(2, .int 0), (0, .ref a0), (1, .int x)]) hx hb dX12_stepOn_1 rfl hl (by decide) rfl (fun ls hl => ?_)
  refine lv_iload_n hx hb dX12_stepOn_2 rfl (lv_at hl 0 rfl) ?_
  refine lv_aload_n hx hb dX12_stepOn_3 rfl (lv_at hl 1 rfl) ?_
  have hPc := hP.sub (ws' := [(a0, .inr (12, MF ad 0 v3 0 (-1) v6 v7 v8 v9 vN 0 v36 v37 v38 v39 v40 v41 0 0 0 0 0)), ((ad 11), .inl (cI, 2, .inl fR))]) [0, 1] rfl
  refine vp_callSi (va_runV (As := []) (rest := [.int 0]) ⟨hx, hb, hml, hown, hts⟩ (m_places l D cI cB cL cZ a0 ad v3 v6 v7 v8 v9 v36 v37 v38 v39 v40 v41 vN fR hf_fR_0) (cwV 0 hts gX12_stepOn_X12_places rfl rfl rfl (by decide +kernel) ⟨Nat.le_of_ble_eq_true rfl, Nat.le_of_ble_eq_true rfl⟩) ⟨xr_blind, va_recv hK hPc (ci := 12) (q0 := 0) rfl rfl, fun U hU hW => xr_mk hU hW hPc hK⟩ rfl rfl hl.1 rfl (lv_room (Nat.le_of_ble_eq_true rfl)) dX12_stepOn_4 ⟨Nat.le_of_ble_eq_true rfl, Nat.le_of_ble_eq_true rfl⟩).run (fun r_1 hr_1 => ?_)
  clear hPc
  subst hr_1
  refine lv_icmp_ge (tgt := 85) hx hb dX12_stepOn_7 (by decide) (fun _ => ?_) (fun c_2 => absurd (by decide) c_2)
  refine lv_iconst (v := 0) hx hb dX12_stepOn_85 (by decide) ?_
  refine lv_istore_n (lv' := [(2, .int 0), (0, .ref a0), (1, .int x)]) hx hb dX12_stepOn_86 rfl hl (by decide) rfl (fun ls hl => ?_)
  refine lv_iload_n hx hb dX12_stepOn_87 rfl (lv_at hl 0 rfl) ?_
  refine lv_aload_n hx hb dX12_stepOn_88 rfl (lv_at hl 1 rfl) ?_
  have hPc := hP.sub (ws' := [(a0, .inr (12, MF ad 0 v3 0 (-1) v6 v7 v8 v9 vN 0 v36 v37 v38 v39 v40 v41 0 0 0 0 0)), ((ad 11), .inl (cI, 2, .inl fR))]) [0, 1] rfl
  refine vp_callSi (va_runV (As := []) (rest := [.int 0]) ⟨hx, hb, hml, hown, hts⟩ (m_places l D cI cB cL cZ a0 ad v3 v6 v7 v8 v9 v36 v37 v38 v39 v40 v41 vN fR hf_fR_0) (cwV 0 hts gX12_stepOn_X12_places rfl rfl rfl (by decide +kernel) ⟨Nat.le_of_ble_eq_true rfl, Nat.le_of_ble_eq_true rfl⟩) ⟨xr_blind, va_recv hK hPc (ci := 12) (q0 := 0) rfl rfl, fun U hU hW => xr_mk hU hW hPc hK⟩ rfl rfl hl.1 rfl (lv_room (Nat.le_of_ble_eq_true rfl)) dX12_stepOn_89 ⟨Nat.le_of_ble_eq_true rfl, Nat.le_of_ble_eq_true rfl⟩).run (fun r_3 hr_3 => ?_)
  clear hPc
  subst hr_3
  refine lv_icmp_ge (tgt := 113) hx hb dX12_stepOn_92 (by decide) (fun _ => ?_) (fun c_4 => absurd (by decide) c_4)
  exact W.vret hx hb hr (fun t ht hW => ⟨rfl, trivial, ht⟩) (fun q hq => by cases hq) dX12_stepOn_113
set_option maxHeartbeats 4000000 in
set_option maxRecDepth 100000 in
theorem m_layWalks (l : Launch) (D : va_G) (cI : ClassId) (cB : ClassId) (cL : ClassId) (cZ : ClassId) (a0 : Nat) (ad : Nat → Nat) (v3 : Int32) (v6 : Int32) (v7 : Int32) (v8 : Int32) (v9 : Int32) (v36 : Int32) (v37 : Int32) (v38 : Int32) (v39 : Int32) (v40 : Int32) (v41 : Int32) (vN : Int64) (fR : Nat → Int32) (x : Int32) (hf_fR_0 : fR 0 = 0) : Met l yX12_layWalks wsX12_layWalks ({ frames := 2, cells := 0, slots := 0, locals := 46 }) (xr D [(cI, .int), (cB, .byte), (cL, .long), (cZ, .boolean)] [(a0, .inr (12, MF ad 0 v3 0 (-1) v6 v7 v8 v9 vN 0 v36 v37 v38 v39 v40 v41 0 0 0 0 0)), ((ad 11), .inl (cI, 2, .inl fR))] [.ref a0, .int x]) (va_Sv (fun _ => True)) 0 0 (fun _ => False) := by
  refine Met.ofW (cc := cX12_layWalks) (maxL := 4) (ret := none) (by decide) rfl ?_
  intro p e s m args below meth c s₁ B hml hv
  obtain ⟨rfl, hP, hK⟩ := hv
  have hx := B.exec
  have hb := B.bytes
  have hr := B.returns
  have hts := atoms_spec (ws := wsX12_layWalks) B.pre
  have hown : s.vm.findClass RX12 = some m.cls := findClass_of_methodNamed B.named
  have hlocks := B.notSynchronized
  have hl := lv_entry ([.ref a0, .int x]) (n := 4) (Nat.le_of_ble_eq_true rfl)
  rw [lg_entry_eq]
  generalize (lg_sl ([.ref a0, .int x]) ++ List.replicate (4 - (lg_sl ([.ref a0, .int x])).length) Slot.unset).toArray = ls at hl ⊢
  replace hl : lv_has ls 4 [(0, .ref a0), (1, .int x)] := hl
  refine lv_iconst (v := 0) hx hb dX12_layWalks_0 (by decide) ?_
  refine lv_istore_n (lv' := [(2, .int 0), (0, .ref a0), (1, .int x)]) hx hb dX12_layWalks_1 rfl hl (by decide) rfl (fun ls hl => ?_)
  refine lv_iload_n hx hb dX12_layWalks_2 rfl (lv_at hl 0 rfl) ?_
  refine lv_aload_n hx hb dX12_layWalks_3 rfl (lv_at hl 1 rfl) ?_
  have hPc := hP.sub (ws' := [(a0, .inr (12, MF ad 0 v3 0 (-1) v6 v7 v8 v9 vN 0 v36 v37 v38 v39 v40 v41 0 0 0 0 0)), ((ad 11), .inl (cI, 2, .inl fR))]) [0, 1] rfl
  refine vp_callSi (va_runV (As := []) (rest := [.int 0]) ⟨hx, hb, hml, hown, hts⟩ (m_places l D cI cB cL cZ a0 ad v3 v6 v7 v8 v9 v36 v37 v38 v39 v40 v41 vN fR hf_fR_0) (cwV 0 hts gX12_layWalks_X12_places rfl rfl rfl (by decide +kernel) ⟨Nat.le_of_ble_eq_true rfl, Nat.le_of_ble_eq_true rfl⟩) ⟨xr_blind, va_recv hK hPc (ci := 12) (q0 := 0) rfl rfl, fun U hU hW => xr_mk hU hW hPc hK⟩ rfl rfl hl.1 rfl (lv_room (Nat.le_of_ble_eq_true rfl)) dX12_layWalks_4 ⟨Nat.le_of_ble_eq_true rfl, Nat.le_of_ble_eq_true rfl⟩).run (fun r_1 hr_1 => ?_)
  clear hPc
  subst hr_1
  refine lv_icmp_ge (tgt := 32) hx hb dX12_layWalks_7 (by decide) (fun _ => ?_) (fun c_2 => absurd (by decide) c_2)
  refine lv_iconst (v := 0) hx hb dX12_layWalks_32 (by decide) ?_
  refine lv_istore_n (lv' := [(2, .int 0), (0, .ref a0), (1, .int x)]) hx hb dX12_layWalks_33 rfl hl (by decide) rfl (fun ls hl => ?_)
  refine lv_iload_n hx hb dX12_layWalks_34 rfl (lv_at hl 0 rfl) ?_
  refine lv_bipush (v := 8) hx hb dX12_layWalks_35 (by decide) ?_
  refine lv_icmp_ge (tgt := 93) hx hb dX12_layWalks_37 (by decide) (fun c_3 => absurd c_3 (by decide)) (fun _ => ?_)
  refine lv_iload_n hx hb dX12_layWalks_40 rfl (lv_at hl 0 rfl) ?_
  refine lv_if_le (tgt := 54) hx hb dX12_layWalks_41 (by decide) (fun _ => ?_) (fun c_4 => absurd (by decide) c_4)
  refine lv_iconst (v := 0) hx hb dX12_layWalks_54 (by decide) ?_
  refine lv_istore_n (lv' := [(3, .int 0), (2, .int 0), (0, .ref a0), (1, .int x)]) hx hb dX12_layWalks_55 rfl hl (by decide) rfl (fun ls hl => ?_)
  refine lv_iload_n hx hb dX12_layWalks_56 rfl (lv_at hl 0 rfl) ?_
  refine lv_aload_n hx hb dX12_layWalks_57 rfl (lv_at hl 2 rfl) ?_
  have hPc := hP.sub (ws' := [(a0, .inr (12, MF ad 0 v3 0 (-1) v6 v7 v8 v9 vN 0 v36 v37 v38 v39 v40 v41 0 0 0 0 0)), ((ad 11), .inl (cI, 2, .inl fR))]) [0, 1] rfl
  refine vp_callSi (va_runV (As := []) (rest := [.int 0]) ⟨hx, hb, hml, hown, hts⟩ (m_places l D cI cB cL cZ a0 ad v3 v6 v7 v8 v9 v36 v37 v38 v39 v40 v41 vN fR hf_fR_0) (cwV 0 hts gX12_layWalks_X12_places rfl rfl rfl (by decide +kernel) ⟨Nat.le_of_ble_eq_true rfl, Nat.le_of_ble_eq_true rfl⟩) ⟨xr_blind, va_recv hK hPc (ci := 12) (q0 := 0) rfl rfl, fun U hU hW => xr_mk hU hW hPc hK⟩ rfl rfl hl.1 rfl (lv_room (Nat.le_of_ble_eq_true rfl)) dX12_layWalks_58 ⟨Nat.le_of_ble_eq_true rfl, Nat.le_of_ble_eq_true rfl⟩).run (fun r_5 hr_5 => ?_)
  clear hPc
  subst hr_5
  refine lv_icmp_ge (tgt := 87) hx hb dX12_layWalks_61 (by decide) (fun _ => ?_) (fun c_6 => absurd (by decide) c_6)
  refine lv_iinc (v := 1) (lv' := [(2, .int 1), (3, .int 0), (0, .ref a0), (1, .int x)]) hx hb dX12_layWalks_87 hl (k := 1) rfl (by decide) (by decide) rfl (fun ls hl => ?_)
  refine lv_goto (tgt := 34) hx hb dX12_layWalks_90 (by decide) ?_
  refine lv_iload_n hx hb dX12_layWalks_34 rfl (lv_at hl 0 rfl) ?_
  refine lv_bipush (v := 8) hx hb dX12_layWalks_35 (by decide) ?_
  refine lv_icmp_ge (tgt := 93) hx hb dX12_layWalks_37 (by decide) (fun c_7 => absurd c_7 (by decide)) (fun _ => ?_)
  refine lv_iload_n hx hb dX12_layWalks_40 rfl (lv_at hl 0 rfl) ?_
  refine lv_if_le (tgt := 54) hx hb dX12_layWalks_41 (by decide) (fun c_8 => absurd c_8 (by decide)) (fun _ => ?_)
  refine lv_aload_n hx hb dX12_layWalks_44 rfl (lv_at hl 2 rfl) ?_
  refine lv_aload_n hx hb dX12_layWalks_45 rfl (lv_at hl 2 rfl) ?_
  refine lv_iload_n hx hb dX12_layWalks_46 rfl (lv_at hl 0 rfl) ?_
  refine lv_iload_n hx hb dX12_layWalks_47 rfl (lv_at hl 3 rfl) ?_
  have hPc := hP.sub (ws' := [(a0, .inr (12, MF ad 0 v3 0 (-1) v6 v7 v8 v9 vN 0 v36 v37 v38 v39 v40 v41 0 0 0 0 0)), ((ad 11), .inl (cI, 2, .inl fR))]) [0, 1] rfl
  refine vp_callSi (va_runV (As := [.int 1, .int x]) (rest := [.ref a0]) ⟨hx, hb, hml, hown, hts⟩ (m_openAt l D cI cB cL cZ a0 ad v3 v6 v7 v8 v9 v36 v37 v38 v39 v40 v41 vN fR 1 x hf_fR_0) (cwV 2 hts gX12_layWalks_X12_openAt rfl rfl rfl (by decide +kernel) ⟨Nat.le_of_ble_eq_true rfl, Nat.le_of_ble_eq_true rfl⟩) ⟨xr_blind, va_recv hK hPc (ci := 12) (q0 := 0) rfl rfl, fun U hU hW => xr_mk hU hW hPc hK⟩ rfl rfl hl.1 rfl (lv_room (Nat.le_of_ble_eq_true rfl)) dX12_layWalks_48 ⟨Nat.le_of_ble_eq_true rfl, Nat.le_of_ble_eq_true rfl⟩).run (fun r_9 hr_9 => ?_)
  clear hPc
  subst hr_9
  have hPc := hP.sub (ws' := [(a0, .inr (12, MF ad 0 v3 0 (-1) v6 v7 v8 v9 vN 0 v36 v37 v38 v39 v40 v41 0 0 0 0 0)), ((ad 11), .inl (cI, 2, .inl fR))]) [0, 1] rfl
  refine va_csv (va_runV (As := [.int 0]) (rest := []) ⟨hx, hb, hml, hown, hts⟩ (m_stepOn l D cI cB cL cZ a0 ad v3 v6 v7 v8 v9 v36 v37 v38 v39 v40 v41 vN fR 0 hf_fR_0) (cwV 1 hts gX12_layWalks_X12_stepOn rfl rfl rfl (by decide +kernel) ⟨Nat.le_of_ble_eq_true rfl, Nat.le_of_ble_eq_true rfl⟩) ⟨xr_blind, va_recv hK hPc (ci := 12) (q0 := 0) rfl rfl, fun U hU hW => xr_mk hU hW hPc hK⟩ rfl rfl hl.1 rfl (lv_room (Nat.le_of_ble_eq_true rfl)) dX12_layWalks_51 ⟨Nat.le_of_ble_eq_true rfl, Nat.le_of_ble_eq_true rfl⟩).run (fun _ => ?_)
  clear hPc
  refine lv_iconst (v := 0) hx hb dX12_layWalks_54 (by decide) ?_
  refine lv_istore_n (lv' := [(3, .int 0), (2, .int 1), (0, .ref a0), (1, .int x)]) hx hb dX12_layWalks_55 rfl hl (by decide) rfl (fun ls hl => ?_)
  refine lv_iload_n hx hb dX12_layWalks_56 rfl (lv_at hl 0 rfl) ?_
  refine lv_aload_n hx hb dX12_layWalks_57 rfl (lv_at hl 2 rfl) ?_
  have hPc := hP.sub (ws' := [(a0, .inr (12, MF ad 0 v3 0 (-1) v6 v7 v8 v9 vN 0 v36 v37 v38 v39 v40 v41 0 0 0 0 0)), ((ad 11), .inl (cI, 2, .inl fR))]) [0, 1] rfl
  refine vp_callSi (va_runV (As := []) (rest := [.int 0]) ⟨hx, hb, hml, hown, hts⟩ (m_places l D cI cB cL cZ a0 ad v3 v6 v7 v8 v9 v36 v37 v38 v39 v40 v41 vN fR hf_fR_0) (cwV 0 hts gX12_layWalks_X12_places rfl rfl rfl (by decide +kernel) ⟨Nat.le_of_ble_eq_true rfl, Nat.le_of_ble_eq_true rfl⟩) ⟨xr_blind, va_recv hK hPc (ci := 12) (q0 := 0) rfl rfl, fun U hU hW => xr_mk hU hW hPc hK⟩ rfl rfl hl.1 rfl (lv_room (Nat.le_of_ble_eq_true rfl)) dX12_layWalks_58 ⟨Nat.le_of_ble_eq_true rfl, Nat.le_of_ble_eq_true rfl⟩).run (fun r_11 hr_11 => ?_)
  clear hPc
  subst hr_11
  refine lv_icmp_ge (tgt := 87) hx hb dX12_layWalks_61 (by decide) (fun _ => ?_) (fun c_12 => absurd (by decide) c_12)
  refine lv_iinc (v := 2) (lv' := [(2, .int 2), (3, .int 0), (0, .ref a0), (1, .int x)]) hx hb dX12_layWalks_87 hl (k := 1) rfl (by decide) (by decide) rfl (fun ls hl => ?_)
  refine lv_goto (tgt := 34) hx hb dX12_layWalks_90 (by decide) ?_
  refine lv_iload_n hx hb dX12_layWalks_34 rfl (lv_at hl 0 rfl) ?_
  refine lv_bipush (v := 8) hx hb dX12_layWalks_35 (by decide) ?_
  refine lv_icmp_ge (tgt := 93) hx hb dX12_layWalks_37 (by decide) (fun c_13 => absurd c_13 (by decide)) (fun _ => ?_)
  refine lv_iload_n hx hb dX12_layWalks_40 rfl (lv_at hl 0 rfl) ?_
  refine lv_if_le (tgt := 54) hx hb dX12_layWalks_41 (by decide) (fun c_14 => absurd c_14 (by decide)) (fun _ => ?_)
  refine lv_aload_n hx hb dX12_layWalks_44 rfl (lv_at hl 2 rfl) ?_
  refine lv_aload_n hx hb dX12_layWalks_45 rfl (lv_at hl 2 rfl) ?_
  refine lv_iload_n hx hb dX12_layWalks_46 rfl (lv_at hl 0 rfl) ?_
  refine lv_iload_n hx hb dX12_layWalks_47 rfl (lv_at hl 3 rfl) ?_
  have hPc := hP.sub (ws' := [(a0, .inr (12, MF ad 0 v3 0 (-1) v6 v7 v8 v9 vN 0 v36 v37 v38 v39 v40 v41 0 0 0 0 0)), ((ad 11), .inl (cI, 2, .inl fR))]) [0, 1] rfl
  refine vp_callSi (va_runV (As := [.int 2, .int x]) (rest := [.ref a0]) ⟨hx, hb, hml, hown, hts⟩ (m_openAt l D cI cB cL cZ a0 ad v3 v6 v7 v8 v9 v36 v37 v38 v39 v40 v41 vN fR 2 x hf_fR_0) (cwV 2 hts gX12_layWalks_X12_openAt rfl rfl rfl (by decide +kernel) ⟨Nat.le_of_ble_eq_true rfl, Nat.le_of_ble_eq_true rfl⟩) ⟨xr_blind, va_recv hK hPc (ci := 12) (q0 := 0) rfl rfl, fun U hU hW => xr_mk hU hW hPc hK⟩ rfl rfl hl.1 rfl (lv_room (Nat.le_of_ble_eq_true rfl)) dX12_layWalks_48 ⟨Nat.le_of_ble_eq_true rfl, Nat.le_of_ble_eq_true rfl⟩).run (fun r_15 hr_15 => ?_)
  clear hPc
  subst hr_15
  have hPc := hP.sub (ws' := [(a0, .inr (12, MF ad 0 v3 0 (-1) v6 v7 v8 v9 vN 0 v36 v37 v38 v39 v40 v41 0 0 0 0 0)), ((ad 11), .inl (cI, 2, .inl fR))]) [0, 1] rfl
  refine va_csv (va_runV (As := [.int 0]) (rest := []) ⟨hx, hb, hml, hown, hts⟩ (m_stepOn l D cI cB cL cZ a0 ad v3 v6 v7 v8 v9 v36 v37 v38 v39 v40 v41 vN fR 0 hf_fR_0) (cwV 1 hts gX12_layWalks_X12_stepOn rfl rfl rfl (by decide +kernel) ⟨Nat.le_of_ble_eq_true rfl, Nat.le_of_ble_eq_true rfl⟩) ⟨xr_blind, va_recv hK hPc (ci := 12) (q0 := 0) rfl rfl, fun U hU hW => xr_mk hU hW hPc hK⟩ rfl rfl hl.1 rfl (lv_room (Nat.le_of_ble_eq_true rfl)) dX12_layWalks_51 ⟨Nat.le_of_ble_eq_true rfl, Nat.le_of_ble_eq_true rfl⟩).run (fun _ => ?_)
  clear hPc
  refine lv_iconst (v := 0) hx hb dX12_layWalks_54 (by decide) ?_
  refine lv_istore_n (lv' := [(3, .int 0), (2, .int 2), (0, .ref a0), (1, .int x)]) hx hb dX12_layWalks_55 rfl hl (by decide) rfl (fun ls hl => ?_)
  refine lv_iload_n hx hb dX12_layWalks_56 rfl (lv_at hl 0 rfl) ?_
  refine lv_aload_n hx hb dX12_layWalks_57 rfl (lv_at hl 2 rfl) ?_
  have hPc := hP.sub (ws' := [(a0, .inr (12, MF ad 0 v3 0 (-1) v6 v7 v8 v9 vN 0 v36 v37 v38 v39 v40 v41 0 0 0 0 0)), ((ad 11), .inl (cI, 2, .inl fR))]) [0, 1] rfl
  refine vp_callSi (va_runV (As := []) (rest := [.int 0]) ⟨hx, hb, hml, hown, hts⟩ (m_places l D cI cB cL cZ a0 ad v3 v6 v7 v8 v9 v36 v37 v38 v39 v40 v41 vN fR hf_fR_0) (cwV 0 hts gX12_layWalks_X12_places rfl rfl rfl (by decide +kernel) ⟨Nat.le_of_ble_eq_true rfl, Nat.le_of_ble_eq_true rfl⟩) ⟨xr_blind, va_recv hK hPc (ci := 12) (q0 := 0) rfl rfl, fun U hU hW => xr_mk hU hW hPc hK⟩ rfl rfl hl.1 rfl (lv_room (Nat.le_of_ble_eq_true rfl)) dX12_layWalks_58 ⟨Nat.le_of_ble_eq_true rfl, Nat.le_of_ble_eq_true rfl⟩).run (fun r_17 hr_17 => ?_)
  clear hPc
  subst hr_17
  refine lv_icmp_ge (tgt := 87) hx hb dX12_layWalks_61 (by decide) (fun _ => ?_) (fun c_18 => absurd (by decide) c_18)
  refine lv_iinc (v := 3) (lv' := [(2, .int 3), (3, .int 0), (0, .ref a0), (1, .int x)]) hx hb dX12_layWalks_87 hl (k := 1) rfl (by decide) (by decide) rfl (fun ls hl => ?_)
  refine lv_goto (tgt := 34) hx hb dX12_layWalks_90 (by decide) ?_
  refine lv_iload_n hx hb dX12_layWalks_34 rfl (lv_at hl 0 rfl) ?_
  refine lv_bipush (v := 8) hx hb dX12_layWalks_35 (by decide) ?_
  refine lv_icmp_ge (tgt := 93) hx hb dX12_layWalks_37 (by decide) (fun c_19 => absurd c_19 (by decide)) (fun _ => ?_)
  refine lv_iload_n hx hb dX12_layWalks_40 rfl (lv_at hl 0 rfl) ?_
  refine lv_if_le (tgt := 54) hx hb dX12_layWalks_41 (by decide) (fun c_20 => absurd c_20 (by decide)) (fun _ => ?_)
  refine lv_aload_n hx hb dX12_layWalks_44 rfl (lv_at hl 2 rfl) ?_
  refine lv_aload_n hx hb dX12_layWalks_45 rfl (lv_at hl 2 rfl) ?_
  refine lv_iload_n hx hb dX12_layWalks_46 rfl (lv_at hl 0 rfl) ?_
  refine lv_iload_n hx hb dX12_layWalks_47 rfl (lv_at hl 3 rfl) ?_
  have hPc := hP.sub (ws' := [(a0, .inr (12, MF ad 0 v3 0 (-1) v6 v7 v8 v9 vN 0 v36 v37 v38 v39 v40 v41 0 0 0 0 0)), ((ad 11), .inl (cI, 2, .inl fR))]) [0, 1] rfl
  refine vp_callSi (va_runV (As := [.int 3, .int x]) (rest := [.ref a0]) ⟨hx, hb, hml, hown, hts⟩ (m_openAt l D cI cB cL cZ a0 ad v3 v6 v7 v8 v9 v36 v37 v38 v39 v40 v41 vN fR 3 x hf_fR_0) (cwV 2 hts gX12_layWalks_X12_openAt rfl rfl rfl (by decide +kernel) ⟨Nat.le_of_ble_eq_true rfl, Nat.le_of_ble_eq_true rfl⟩) ⟨xr_blind, va_recv hK hPc (ci := 12) (q0 := 0) rfl rfl, fun U hU hW => xr_mk hU hW hPc hK⟩ rfl rfl hl.1 rfl (lv_room (Nat.le_of_ble_eq_true rfl)) dX12_layWalks_48 ⟨Nat.le_of_ble_eq_true rfl, Nat.le_of_ble_eq_true rfl⟩).run (fun r_21 hr_21 => ?_)
  clear hPc
  subst hr_21
  have hPc := hP.sub (ws' := [(a0, .inr (12, MF ad 0 v3 0 (-1) v6 v7 v8 v9 vN 0 v36 v37 v38 v39 v40 v41 0 0 0 0 0)), ((ad 11), .inl (cI, 2, .inl fR))]) [0, 1] rfl
  refine va_csv (va_runV (As := [.int 0]) (rest := []) ⟨hx, hb, hml, hown, hts⟩ (m_stepOn l D cI cB cL cZ a0 ad v3 v6 v7 v8 v9 v36 v37 v38 v39 v40 v41 vN fR 0 hf_fR_0) (cwV 1 hts gX12_layWalks_X12_stepOn rfl rfl rfl (by decide +kernel) ⟨Nat.le_of_ble_eq_true rfl, Nat.le_of_ble_eq_true rfl⟩) ⟨xr_blind, va_recv hK hPc (ci := 12) (q0 := 0) rfl rfl, fun U hU hW => xr_mk hU hW hPc hK⟩ rfl rfl hl.1 rfl (lv_room (Nat.le_of_ble_eq_true rfl)) dX12_layWalks_51 ⟨Nat.le_of_ble_eq_true rfl, Nat.le_of_ble_eq_true rfl⟩).run (fun _ => ?_)
  clear hPc
  refine lv_iconst (v := 0) hx hb dX12_layWalks_54 (by decide) ?_
  refine lv_istore_n (lv' := [(3, .int 0), (2, .int 3), (0, .ref a0), (1, .int x)]) hx hb dX12_layWalks_55 rfl hl (by decide) rfl (fun ls hl => ?_)
  refine lv_iload_n hx hb dX12_layWalks_56 rfl (lv_at hl 0 rfl) ?_
  refine lv_aload_n hx hb dX12_layWalks_57 rfl (lv_at hl 2 rfl) ?_
  have hPc := hP.sub (ws' := [(a0, .inr (12, MF ad 0 v3 0 (-1) v6 v7 v8 v9 vN 0 v36 v37 v38 v39 v40 v41 0 0 0 0 0)), ((ad 11), .inl (cI, 2, .inl fR))]) [0, 1] rfl
  refine vp_callSi (va_runV (As := []) (rest := [.int 0]) ⟨hx, hb, hml, hown, hts⟩ (m_places l D cI cB cL cZ a0 ad v3 v6 v7 v8 v9 v36 v37 v38 v39 v40 v41 vN fR hf_fR_0) (cwV 0 hts gX12_layWalks_X12_places rfl rfl rfl (by decide +kernel) ⟨Nat.le_of_ble_eq_true rfl, Nat.le_of_ble_eq_true rfl⟩) ⟨xr_blind, va_recv hK hPc (ci := 12) (q0 := 0) rfl rfl, fun U hU hW => xr_mk hU hW hPc hK⟩ rfl rfl hl.1 rfl (lv_room (Nat.le_of_ble_eq_true rfl)) dX12_layWalks_58 ⟨Nat.le_of_ble_eq_true rfl, Nat.le_of_ble_eq_true rfl⟩).run (fun r_23 hr_23 => ?_)
  clear hPc
  subst hr_23
  refine lv_icmp_ge (tgt := 87) hx hb dX12_layWalks_61 (by decide) (fun _ => ?_) (fun c_24 => absurd (by decide) c_24)
  refine lv_iinc (v := 4) (lv' := [(2, .int 4), (3, .int 0), (0, .ref a0), (1, .int x)]) hx hb dX12_layWalks_87 hl (k := 1) rfl (by decide) (by decide) rfl (fun ls hl => ?_)
  refine lv_goto (tgt := 34) hx hb dX12_layWalks_90 (by decide) ?_
  refine lv_iload_n hx hb dX12_layWalks_34 rfl (lv_at hl 0 rfl) ?_
  refine lv_bipush (v := 8) hx hb dX12_layWalks_35 (by decide) ?_
  refine lv_icmp_ge (tgt := 93) hx hb dX12_layWalks_37 (by decide) (fun c_25 => absurd c_25 (by decide)) (fun _ => ?_)
  refine lv_iload_n hx hb dX12_layWalks_40 rfl (lv_at hl 0 rfl) ?_
  refine lv_if_le (tgt := 54) hx hb dX12_layWalks_41 (by decide) (fun c_26 => absurd c_26 (by decide)) (fun _ => ?_)
  refine lv_aload_n hx hb dX12_layWalks_44 rfl (lv_at hl 2 rfl) ?_
  refine lv_aload_n hx hb dX12_layWalks_45 rfl (lv_at hl 2 rfl) ?_
  refine lv_iload_n hx hb dX12_layWalks_46 rfl (lv_at hl 0 rfl) ?_
  refine lv_iload_n hx hb dX12_layWalks_47 rfl (lv_at hl 3 rfl) ?_
  have hPc := hP.sub (ws' := [(a0, .inr (12, MF ad 0 v3 0 (-1) v6 v7 v8 v9 vN 0 v36 v37 v38 v39 v40 v41 0 0 0 0 0)), ((ad 11), .inl (cI, 2, .inl fR))]) [0, 1] rfl
  refine vp_callSi (va_runV (As := [.int 4, .int x]) (rest := [.ref a0]) ⟨hx, hb, hml, hown, hts⟩ (m_openAt l D cI cB cL cZ a0 ad v3 v6 v7 v8 v9 v36 v37 v38 v39 v40 v41 vN fR 4 x hf_fR_0) (cwV 2 hts gX12_layWalks_X12_openAt rfl rfl rfl (by decide +kernel) ⟨Nat.le_of_ble_eq_true rfl, Nat.le_of_ble_eq_true rfl⟩) ⟨xr_blind, va_recv hK hPc (ci := 12) (q0 := 0) rfl rfl, fun U hU hW => xr_mk hU hW hPc hK⟩ rfl rfl hl.1 rfl (lv_room (Nat.le_of_ble_eq_true rfl)) dX12_layWalks_48 ⟨Nat.le_of_ble_eq_true rfl, Nat.le_of_ble_eq_true rfl⟩).run (fun r_27 hr_27 => ?_)
  clear hPc
  subst hr_27
  have hPc := hP.sub (ws' := [(a0, .inr (12, MF ad 0 v3 0 (-1) v6 v7 v8 v9 vN 0 v36 v37 v38 v39 v40 v41 0 0 0 0 0)), ((ad 11), .inl (cI, 2, .inl fR))]) [0, 1] rfl
  refine va_csv (va_runV (As := [.int 0]) (rest := []) ⟨hx, hb, hml, hown, hts⟩ (m_stepOn l D cI cB cL cZ a0 ad v3 v6 v7 v8 v9 v36 v37 v38 v39 v40 v41 vN fR 0 hf_fR_0) (cwV 1 hts gX12_layWalks_X12_stepOn rfl rfl rfl (by decide +kernel) ⟨Nat.le_of_ble_eq_true rfl, Nat.le_of_ble_eq_true rfl⟩) ⟨xr_blind, va_recv hK hPc (ci := 12) (q0 := 0) rfl rfl, fun U hU hW => xr_mk hU hW hPc hK⟩ rfl rfl hl.1 rfl (lv_room (Nat.le_of_ble_eq_true rfl)) dX12_layWalks_51 ⟨Nat.le_of_ble_eq_true rfl, Nat.le_of_ble_eq_true rfl⟩).run (fun _ => ?_)
  clear hPc
  refine lv_iconst (v := 0) hx hb dX12_layWalks_54 (by decide) ?_
  refine lv_istore_n (lv' := [(3, .int 0), (2, .int 4), (0, .ref a0), (1, .int x)]) hx hb dX12_layWalks_55 rfl hl (by decide) rfl (fun ls hl => ?_)
  refine lv_iload_n hx hb dX12_layWalks_56 rfl (lv_at hl 0 rfl) ?_
  refine lv_aload_n hx hb dX12_layWalks_57 rfl (lv_at hl 2 rfl) ?_
  have hPc := hP.sub (ws' := [(a0, .inr (12, MF ad 0 v3 0 (-1) v6 v7 v8 v9 vN 0 v36 v37 v38 v39 v40 v41 0 0 0 0 0)), ((ad 11), .inl (cI, 2, .inl fR))]) [0, 1] rfl
  refine vp_callSi (va_runV (As := []) (rest := [.int 0]) ⟨hx, hb, hml, hown, hts⟩ (m_places l D cI cB cL cZ a0 ad v3 v6 v7 v8 v9 v36 v37 v38 v39 v40 v41 vN fR hf_fR_0) (cwV 0 hts gX12_layWalks_X12_places rfl rfl rfl (by decide +kernel) ⟨Nat.le_of_ble_eq_true rfl, Nat.le_of_ble_eq_true rfl⟩) ⟨xr_blind, va_recv hK hPc (ci := 12) (q0 := 0) rfl rfl, fun U hU hW => xr_mk hU hW hPc hK⟩ rfl rfl hl.1 rfl (lv_room (Nat.le_of_ble_eq_true rfl)) dX12_layWalks_58 ⟨Nat.le_of_ble_eq_true rfl, Nat.le_of_ble_eq_true rfl⟩).run (fun r_29 hr_29 => ?_)
  clear hPc
  subst hr_29
  refine lv_icmp_ge (tgt := 87) hx hb dX12_layWalks_61 (by decide) (fun _ => ?_) (fun c_30 => absurd (by decide) c_30)
  refine lv_iinc (v := 5) (lv' := [(2, .int 5), (3, .int 0), (0, .ref a0), (1, .int x)]) hx hb dX12_layWalks_87 hl (k := 1) rfl (by decide) (by decide) rfl (fun ls hl => ?_)
  refine lv_goto (tgt := 34) hx hb dX12_layWalks_90 (by decide) ?_
  refine lv_iload_n hx hb dX12_layWalks_34 rfl (lv_at hl 0 rfl) ?_
  refine lv_bipush (v := 8) hx hb dX12_layWalks_35 (by decide) ?_
  refine lv_icmp_ge (tgt := 93) hx hb dX12_layWalks_37 (by decide) (fun c_31 => absurd c_31 (by decide)) (fun _ => ?_)
  refine lv_iload_n hx hb dX12_layWalks_40 rfl (lv_at hl 0 rfl) ?_
  refine lv_if_le (tgt := 54) hx hb dX12_layWalks_41 (by decide) (fun c_32 => absurd c_32 (by decide)) (fun _ => ?_)
  refine lv_aload_n hx hb dX12_layWalks_44 rfl (lv_at hl 2 rfl) ?_
  refine lv_aload_n hx hb dX12_layWalks_45 rfl (lv_at hl 2 rfl) ?_
  refine lv_iload_n hx hb dX12_layWalks_46 rfl (lv_at hl 0 rfl) ?_
  refine lv_iload_n hx hb dX12_layWalks_47 rfl (lv_at hl 3 rfl) ?_
  have hPc := hP.sub (ws' := [(a0, .inr (12, MF ad 0 v3 0 (-1) v6 v7 v8 v9 vN 0 v36 v37 v38 v39 v40 v41 0 0 0 0 0)), ((ad 11), .inl (cI, 2, .inl fR))]) [0, 1] rfl
  refine vp_callSi (va_runV (As := [.int 5, .int x]) (rest := [.ref a0]) ⟨hx, hb, hml, hown, hts⟩ (m_openAt l D cI cB cL cZ a0 ad v3 v6 v7 v8 v9 v36 v37 v38 v39 v40 v41 vN fR 5 x hf_fR_0) (cwV 2 hts gX12_layWalks_X12_openAt rfl rfl rfl (by decide +kernel) ⟨Nat.le_of_ble_eq_true rfl, Nat.le_of_ble_eq_true rfl⟩) ⟨xr_blind, va_recv hK hPc (ci := 12) (q0 := 0) rfl rfl, fun U hU hW => xr_mk hU hW hPc hK⟩ rfl rfl hl.1 rfl (lv_room (Nat.le_of_ble_eq_true rfl)) dX12_layWalks_48 ⟨Nat.le_of_ble_eq_true rfl, Nat.le_of_ble_eq_true rfl⟩).run (fun r_33 hr_33 => ?_)
  clear hPc
  subst hr_33
  have hPc := hP.sub (ws' := [(a0, .inr (12, MF ad 0 v3 0 (-1) v6 v7 v8 v9 vN 0 v36 v37 v38 v39 v40 v41 0 0 0 0 0)), ((ad 11), .inl (cI, 2, .inl fR))]) [0, 1] rfl
  refine va_csv (va_runV (As := [.int 0]) (rest := []) ⟨hx, hb, hml, hown, hts⟩ (m_stepOn l D cI cB cL cZ a0 ad v3 v6 v7 v8 v9 v36 v37 v38 v39 v40 v41 vN fR 0 hf_fR_0) (cwV 1 hts gX12_layWalks_X12_stepOn rfl rfl rfl (by decide +kernel) ⟨Nat.le_of_ble_eq_true rfl, Nat.le_of_ble_eq_true rfl⟩) ⟨xr_blind, va_recv hK hPc (ci := 12) (q0 := 0) rfl rfl, fun U hU hW => xr_mk hU hW hPc hK⟩ rfl rfl hl.1 rfl (lv_room (Nat.le_of_ble_eq_true rfl)) dX12_layWalks_51 ⟨Nat.le_of_ble_eq_true rfl, Nat.le_of_ble_eq_true rfl⟩).run (fun _ => ?_)
  clear hPc
  refine lv_iconst (v := 0) hx hb dX12_layWalks_54 (by decide) ?_
  refine lv_istore_n (lv' := [(3, .int 0), (2, .int 5), (0, .ref a0), (1, .int x)]) hx hb dX12_layWalks_55 rfl hl (by decide) rfl (fun ls hl => ?_)
  refine lv_iload_n hx hb dX12_layWalks_56 rfl (lv_at hl 0 rfl) ?_
  refine lv_aload_n hx hb dX12_layWalks_57 rfl (lv_at hl 2 rfl) ?_
  have hPc := hP.sub (ws' := [(a0, .inr (12, MF ad 0 v3 0 (-1) v6 v7 v8 v9 vN 0 v36 v37 v38 v39 v40 v41 0 0 0 0 0)), ((ad 11), .inl (cI, 2, .inl fR))]) [0, 1] rfl
  refine vp_callSi (va_runV (As := []) (rest := [.int 0]) ⟨hx, hb, hml, hown, hts⟩ (m_places l D cI cB cL cZ a0 ad v3 v6 v7 v8 v9 v36 v37 v38 v39 v40 v41 vN fR hf_fR_0) (cwV 0 hts gX12_layWalks_X12_places rfl rfl rfl (by decide +kernel) ⟨Nat.le_of_ble_eq_true rfl, Nat.le_of_ble_eq_true rfl⟩) ⟨xr_blind, va_recv hK hPc (ci := 12) (q0 := 0) rfl rfl, fun U hU hW => xr_mk hU hW hPc hK⟩ rfl rfl hl.1 rfl (lv_room (Nat.le_of_ble_eq_true rfl)) dX12_layWalks_58 ⟨Nat.le_of_ble_eq_true rfl, Nat.le_of_ble_eq_true rfl⟩).run (fun r_35 hr_35 => ?_)
  clear hPc
  subst hr_35
  refine lv_icmp_ge (tgt := 87) hx hb dX12_layWalks_61 (by decide) (fun _ => ?_) (fun c_36 => absurd (by decide) c_36)
  refine lv_iinc (v := 6) (lv' := [(2, .int 6), (3, .int 0), (0, .ref a0), (1, .int x)]) hx hb dX12_layWalks_87 hl (k := 1) rfl (by decide) (by decide) rfl (fun ls hl => ?_)
  refine lv_goto (tgt := 34) hx hb dX12_layWalks_90 (by decide) ?_
  refine lv_iload_n hx hb dX12_layWalks_34 rfl (lv_at hl 0 rfl) ?_
  refine lv_bipush (v := 8) hx hb dX12_layWalks_35 (by decide) ?_
  refine lv_icmp_ge (tgt := 93) hx hb dX12_layWalks_37 (by decide) (fun c_37 => absurd c_37 (by decide)) (fun _ => ?_)
  refine lv_iload_n hx hb dX12_layWalks_40 rfl (lv_at hl 0 rfl) ?_
  refine lv_if_le (tgt := 54) hx hb dX12_layWalks_41 (by decide) (fun c_38 => absurd c_38 (by decide)) (fun _ => ?_)
  refine lv_aload_n hx hb dX12_layWalks_44 rfl (lv_at hl 2 rfl) ?_
  refine lv_aload_n hx hb dX12_layWalks_45 rfl (lv_at hl 2 rfl) ?_
  refine lv_iload_n hx hb dX12_layWalks_46 rfl (lv_at hl 0 rfl) ?_
  refine lv_iload_n hx hb dX12_layWalks_47 rfl (lv_at hl 3 rfl) ?_
  have hPc := hP.sub (ws' := [(a0, .inr (12, MF ad 0 v3 0 (-1) v6 v7 v8 v9 vN 0 v36 v37 v38 v39 v40 v41 0 0 0 0 0)), ((ad 11), .inl (cI, 2, .inl fR))]) [0, 1] rfl
  refine vp_callSi (va_runV (As := [.int 6, .int x]) (rest := [.ref a0]) ⟨hx, hb, hml, hown, hts⟩ (m_openAt l D cI cB cL cZ a0 ad v3 v6 v7 v8 v9 v36 v37 v38 v39 v40 v41 vN fR 6 x hf_fR_0) (cwV 2 hts gX12_layWalks_X12_openAt rfl rfl rfl (by decide +kernel) ⟨Nat.le_of_ble_eq_true rfl, Nat.le_of_ble_eq_true rfl⟩) ⟨xr_blind, va_recv hK hPc (ci := 12) (q0 := 0) rfl rfl, fun U hU hW => xr_mk hU hW hPc hK⟩ rfl rfl hl.1 rfl (lv_room (Nat.le_of_ble_eq_true rfl)) dX12_layWalks_48 ⟨Nat.le_of_ble_eq_true rfl, Nat.le_of_ble_eq_true rfl⟩).run (fun r_39 hr_39 => ?_)
  clear hPc
  subst hr_39
  have hPc := hP.sub (ws' := [(a0, .inr (12, MF ad 0 v3 0 (-1) v6 v7 v8 v9 vN 0 v36 v37 v38 v39 v40 v41 0 0 0 0 0)), ((ad 11), .inl (cI, 2, .inl fR))]) [0, 1] rfl
  refine va_csv (va_runV (As := [.int 0]) (rest := []) ⟨hx, hb, hml, hown, hts⟩ (m_stepOn l D cI cB cL cZ a0 ad v3 v6 v7 v8 v9 v36 v37 v38 v39 v40 v41 vN fR 0 hf_fR_0) (cwV 1 hts gX12_layWalks_X12_stepOn rfl rfl rfl (by decide +kernel) ⟨Nat.le_of_ble_eq_true rfl, Nat.le_of_ble_eq_true rfl⟩) ⟨xr_blind, va_recv hK hPc (ci := 12) (q0 := 0) rfl rfl, fun U hU hW => xr_mk hU hW hPc hK⟩ rfl rfl hl.1 rfl (lv_room (Nat.le_of_ble_eq_true rfl)) dX12_layWalks_51 ⟨Nat.le_of_ble_eq_true rfl, Nat.le_of_ble_eq_true rfl⟩).run (fun _ => ?_)
  clear hPc
  refine lv_iconst (v := 0) hx hb dX12_layWalks_54 (by decide) ?_
  refine lv_istore_n (lv' := [(3, .int 0), (2, .int 6), (0, .ref a0), (1, .int x)]) hx hb dX12_layWalks_55 rfl hl (by decide) rfl (fun ls hl => ?_)
  refine lv_iload_n hx hb dX12_layWalks_56 rfl (lv_at hl 0 rfl) ?_
  refine lv_aload_n hx hb dX12_layWalks_57 rfl (lv_at hl 2 rfl) ?_
  have hPc := hP.sub (ws' := [(a0, .inr (12, MF ad 0 v3 0 (-1) v6 v7 v8 v9 vN 0 v36 v37 v38 v39 v40 v41 0 0 0 0 0)), ((ad 11), .inl (cI, 2, .inl fR))]) [0, 1] rfl
  refine vp_callSi (va_runV (As := []) (rest := [.int 0]) ⟨hx, hb, hml, hown, hts⟩ (m_places l D cI cB cL cZ a0 ad v3 v6 v7 v8 v9 v36 v37 v38 v39 v40 v41 vN fR hf_fR_0) (cwV 0 hts gX12_layWalks_X12_places rfl rfl rfl (by decide +kernel) ⟨Nat.le_of_ble_eq_true rfl, Nat.le_of_ble_eq_true rfl⟩) ⟨xr_blind, va_recv hK hPc (ci := 12) (q0 := 0) rfl rfl, fun U hU hW => xr_mk hU hW hPc hK⟩ rfl rfl hl.1 rfl (lv_room (Nat.le_of_ble_eq_true rfl)) dX12_layWalks_58 ⟨Nat.le_of_ble_eq_true rfl, Nat.le_of_ble_eq_true rfl⟩).run (fun r_41 hr_41 => ?_)
  clear hPc
  subst hr_41
  refine lv_icmp_ge (tgt := 87) hx hb dX12_layWalks_61 (by decide) (fun _ => ?_) (fun c_42 => absurd (by decide) c_42)
  refine lv_iinc (v := 7) (lv' := [(2, .int 7), (3, .int 0), (0, .ref a0), (1, .int x)]) hx hb dX12_layWalks_87 hl (k := 1) rfl (by decide) (by decide) rfl (fun ls hl => ?_)
  refine lv_goto (tgt := 34) hx hb dX12_layWalks_90 (by decide) ?_
  refine lv_iload_n hx hb dX12_layWalks_34 rfl (lv_at hl 0 rfl) ?_
  refine lv_bipush (v := 8) hx hb dX12_layWalks_35 (by decide) ?_
  refine lv_icmp_ge (tgt := 93) hx hb dX12_layWalks_37 (by decide) (fun c_43 => absurd c_43 (by decide)) (fun _ => ?_)
  refine lv_iload_n hx hb dX12_layWalks_40 rfl (lv_at hl 0 rfl) ?_
  refine lv_if_le (tgt := 54) hx hb dX12_layWalks_41 (by decide) (fun c_44 => absurd c_44 (by decide)) (fun _ => ?_)
  refine lv_aload_n hx hb dX12_layWalks_44 rfl (lv_at hl 2 rfl) ?_
  refine lv_aload_n hx hb dX12_layWalks_45 rfl (lv_at hl 2 rfl) ?_
  refine lv_iload_n hx hb dX12_layWalks_46 rfl (lv_at hl 0 rfl) ?_
  refine lv_iload_n hx hb dX12_layWalks_47 rfl (lv_at hl 3 rfl) ?_
  have hPc := hP.sub (ws' := [(a0, .inr (12, MF ad 0 v3 0 (-1) v6 v7 v8 v9 vN 0 v36 v37 v38 v39 v40 v41 0 0 0 0 0)), ((ad 11), .inl (cI, 2, .inl fR))]) [0, 1] rfl
  refine vp_callSi (va_runV (As := [.int 7, .int x]) (rest := [.ref a0]) ⟨hx, hb, hml, hown, hts⟩ (m_openAt l D cI cB cL cZ a0 ad v3 v6 v7 v8 v9 v36 v37 v38 v39 v40 v41 vN fR 7 x hf_fR_0) (cwV 2 hts gX12_layWalks_X12_openAt rfl rfl rfl (by decide +kernel) ⟨Nat.le_of_ble_eq_true rfl, Nat.le_of_ble_eq_true rfl⟩) ⟨xr_blind, va_recv hK hPc (ci := 12) (q0 := 0) rfl rfl, fun U hU hW => xr_mk hU hW hPc hK⟩ rfl rfl hl.1 rfl (lv_room (Nat.le_of_ble_eq_true rfl)) dX12_layWalks_48 ⟨Nat.le_of_ble_eq_true rfl, Nat.le_of_ble_eq_true rfl⟩).run (fun r_45 hr_45 => ?_)
  clear hPc
  subst hr_45
  have hPc := hP.sub (ws' := [(a0, .inr (12, MF ad 0 v3 0 (-1) v6 v7 v8 v9 vN 0 v36 v37 v38 v39 v40 v41 0 0 0 0 0)), ((ad 11), .inl (cI, 2, .inl fR))]) [0, 1] rfl
  refine va_csv (va_runV (As := [.int 0]) (rest := []) ⟨hx, hb, hml, hown, hts⟩ (m_stepOn l D cI cB cL cZ a0 ad v3 v6 v7 v8 v9 v36 v37 v38 v39 v40 v41 vN fR 0 hf_fR_0) (cwV 1 hts gX12_layWalks_X12_stepOn rfl rfl rfl (by decide +kernel) ⟨Nat.le_of_ble_eq_true rfl, Nat.le_of_ble_eq_true rfl⟩) ⟨xr_blind, va_recv hK hPc (ci := 12) (q0 := 0) rfl rfl, fun U hU hW => xr_mk hU hW hPc hK⟩ rfl rfl hl.1 rfl (lv_room (Nat.le_of_ble_eq_true rfl)) dX12_layWalks_51 ⟨Nat.le_of_ble_eq_true rfl, Nat.le_of_ble_eq_true rfl⟩).run (fun _ => ?_)
  clear hPc
  refine lv_iconst (v := 0) hx hb dX12_layWalks_54 (by decide) ?_
  refine lv_istore_n (lv' := [(3, .int 0), (2, .int 7), (0, .ref a0), (1, .int x)]) hx hb dX12_layWalks_55 rfl hl (by decide) rfl (fun ls hl => ?_)
  refine lv_iload_n hx hb dX12_layWalks_56 rfl (lv_at hl 0 rfl) ?_
  refine lv_aload_n hx hb dX12_layWalks_57 rfl (lv_at hl 2 rfl) ?_
  have hPc := hP.sub (ws' := [(a0, .inr (12, MF ad 0 v3 0 (-1) v6 v7 v8 v9 vN 0 v36 v37 v38 v39 v40 v41 0 0 0 0 0)), ((ad 11), .inl (cI, 2, .inl fR))]) [0, 1] rfl
  refine vp_callSi (va_runV (As := []) (rest := [.int 0]) ⟨hx, hb, hml, hown, hts⟩ (m_places l D cI cB cL cZ a0 ad v3 v6 v7 v8 v9 v36 v37 v38 v39 v40 v41 vN fR hf_fR_0) (cwV 0 hts gX12_layWalks_X12_places rfl rfl rfl (by decide +kernel) ⟨Nat.le_of_ble_eq_true rfl, Nat.le_of_ble_eq_true rfl⟩) ⟨xr_blind, va_recv hK hPc (ci := 12) (q0 := 0) rfl rfl, fun U hU hW => xr_mk hU hW hPc hK⟩ rfl rfl hl.1 rfl (lv_room (Nat.le_of_ble_eq_true rfl)) dX12_layWalks_58 ⟨Nat.le_of_ble_eq_true rfl, Nat.le_of_ble_eq_true rfl⟩).run (fun r_47 hr_47 => ?_)
  clear hPc
  subst hr_47
  refine lv_icmp_ge (tgt := 87) hx hb dX12_layWalks_61 (by decide) (fun _ => ?_) (fun c_48 => absurd (by decide) c_48)
  refine lv_iinc (v := 8) (lv' := [(2, .int 8), (3, .int 0), (0, .ref a0), (1, .int x)]) hx hb dX12_layWalks_87 hl (k := 1) rfl (by decide) (by decide) rfl (fun ls hl => ?_)
  refine lv_goto (tgt := 34) hx hb dX12_layWalks_90 (by decide) ?_
  refine lv_iload_n hx hb dX12_layWalks_34 rfl (lv_at hl 0 rfl) ?_
  refine lv_bipush (v := 8) hx hb dX12_layWalks_35 (by decide) ?_
  refine lv_icmp_ge (tgt := 93) hx hb dX12_layWalks_37 (by decide) (fun _ => ?_) (fun c_49 => absurd (by decide) c_49)
  refine lv_iconst (v := 0) hx hb dX12_layWalks_93 (by decide) ?_
  refine lv_istore_n (lv' := [(2, .int 0), (3, .int 0), (0, .ref a0), (1, .int x)]) hx hb dX12_layWalks_94 rfl hl (by decide) rfl (fun ls hl => ?_)
  refine lv_iload_n hx hb dX12_layWalks_95 rfl (lv_at hl 0 rfl) ?_
  refine lv_aload_n hx hb dX12_layWalks_96 rfl (lv_at hl 2 rfl) ?_
  have hPc := hP.sub (ws' := [(a0, .inr (12, MF ad 0 v3 0 (-1) v6 v7 v8 v9 vN 0 v36 v37 v38 v39 v40 v41 0 0 0 0 0)), ((ad 11), .inl (cI, 2, .inl fR))]) [0, 1] rfl
  refine vp_callSi (va_runV (As := []) (rest := [.int 0]) ⟨hx, hb, hml, hown, hts⟩ (m_places l D cI cB cL cZ a0 ad v3 v6 v7 v8 v9 v36 v37 v38 v39 v40 v41 vN fR hf_fR_0) (cwV 0 hts gX12_layWalks_X12_places rfl rfl rfl (by decide +kernel) ⟨Nat.le_of_ble_eq_true rfl, Nat.le_of_ble_eq_true rfl⟩) ⟨xr_blind, va_recv hK hPc (ci := 12) (q0 := 0) rfl rfl, fun U hU hW => xr_mk hU hW hPc hK⟩ rfl rfl hl.1 rfl (lv_room (Nat.le_of_ble_eq_true rfl)) dX12_layWalks_97 ⟨Nat.le_of_ble_eq_true rfl, Nat.le_of_ble_eq_true rfl⟩).run (fun r_50 hr_50 => ?_)
  clear hPc
  subst hr_50
  refine lv_icmp_ge (tgt := 116) hx hb dX12_layWalks_100 (by decide) (fun _ => ?_) (fun c_51 => absurd (by decide) c_51)
  refine lv_bipush (v := 7) hx hb dX12_layWalks_116 (by decide) ?_
  refine lv_istore_n (lv' := [(2, .int 7), (3, .int 0), (0, .ref a0), (1, .int x)]) hx hb dX12_layWalks_118 rfl hl (by decide) rfl (fun ls hl => ?_)
  refine lv_iload_n hx hb dX12_layWalks_119 rfl (lv_at hl 0 rfl) ?_
  refine lv_if_lt (tgt := 196) hx hb dX12_layWalks_120 (by decide) (fun c_52 => absurd c_52 (by decide)) (fun _ => ?_)
  refine lv_iconst (v := 0) hx hb dX12_layWalks_123 (by decide) ?_
  refine lv_istore_n (lv' := [(3, .int 0), (2, .int 7), (0, .ref a0), (1, .int x)]) hx hb dX12_layWalks_124 rfl hl (by decide) rfl (fun ls hl => ?_)
  refine lv_iload_n hx hb dX12_layWalks_125 rfl (lv_at hl 0 rfl) ?_
  refine lv_aload_n hx hb dX12_layWalks_126 rfl (lv_at hl 2 rfl) ?_
  have hPc := hP.sub (ws' := [(a0, .inr (12, MF ad 0 v3 0 (-1) v6 v7 v8 v9 vN 0 v36 v37 v38 v39 v40 v41 0 0 0 0 0)), ((ad 11), .inl (cI, 2, .inl fR))]) [0, 1] rfl
  refine vp_callSi (va_runV (As := []) (rest := [.int 0]) ⟨hx, hb, hml, hown, hts⟩ (m_places l D cI cB cL cZ a0 ad v3 v6 v7 v8 v9 v36 v37 v38 v39 v40 v41 vN fR hf_fR_0) (cwV 0 hts gX12_layWalks_X12_places rfl rfl rfl (by decide +kernel) ⟨Nat.le_of_ble_eq_true rfl, Nat.le_of_ble_eq_true rfl⟩) ⟨xr_blind, va_recv hK hPc (ci := 12) (q0 := 0) rfl rfl, fun U hU hW => xr_mk hU hW hPc hK⟩ rfl rfl hl.1 rfl (lv_room (Nat.le_of_ble_eq_true rfl)) dX12_layWalks_127 ⟨Nat.le_of_ble_eq_true rfl, Nat.le_of_ble_eq_true rfl⟩).run (fun r_53 hr_53 => ?_)
  clear hPc
  subst hr_53
  refine lv_icmp_ge (tgt := 185) hx hb dX12_layWalks_130 (by decide) (fun _ => ?_) (fun c_54 => absurd (by decide) c_54)
  refine lv_aload_n hx hb dX12_layWalks_185 rfl (lv_at hl 2 rfl) ?_
  refine lv_iconst (v := (-1)) hx hb dX12_layWalks_186 (by decide) ?_
  have hPc := hP.sub (ws' := [(a0, .inr (12, MF ad 0 v3 0 (-1) v6 v7 v8 v9 vN 0 v36 v37 v38 v39 v40 v41 0 0 0 0 0)), ((ad 11), .inl (cI, 2, .inl fR))]) [0, 1] rfl
  refine va_csv (va_runV (As := [.int (-1)]) (rest := []) ⟨hx, hb, hml, hown, hts⟩ (m_stepOn l D cI cB cL cZ a0 ad v3 v6 v7 v8 v9 v36 v37 v38 v39 v40 v41 vN fR ((-1)) hf_fR_0) (cwV 1 hts gX12_layWalks_X12_stepOn rfl rfl rfl (by decide +kernel) ⟨Nat.le_of_ble_eq_true rfl, Nat.le_of_ble_eq_true rfl⟩) ⟨xr_blind, va_recv hK hPc (ci := 12) (q0 := 0) rfl rfl, fun U hU hW => xr_mk hU hW hPc hK⟩ rfl rfl hl.1 rfl (lv_room (Nat.le_of_ble_eq_true rfl)) dX12_layWalks_187 ⟨Nat.le_of_ble_eq_true rfl, Nat.le_of_ble_eq_true rfl⟩).run (fun _ => ?_)
  clear hPc
  refine lv_iinc (v := 6) (lv' := [(2, .int 6), (3, .int 0), (0, .ref a0), (1, .int x)]) hx hb dX12_layWalks_190 hl (k := 1) rfl (by decide) (by decide) rfl (fun ls hl => ?_)
  refine lv_goto (tgt := 119) hx hb dX12_layWalks_193 (by decide) ?_
  refine lv_iload_n hx hb dX12_layWalks_119 rfl (lv_at hl 0 rfl) ?_
  refine lv_if_lt (tgt := 196) hx hb dX12_layWalks_120 (by decide) (fun c_56 => absurd c_56 (by decide)) (fun _ => ?_)
  refine lv_iconst (v := 0) hx hb dX12_layWalks_123 (by decide) ?_
  refine lv_istore_n (lv' := [(3, .int 0), (2, .int 6), (0, .ref a0), (1, .int x)]) hx hb dX12_layWalks_124 rfl hl (by decide) rfl (fun ls hl => ?_)
  refine lv_iload_n hx hb dX12_layWalks_125 rfl (lv_at hl 0 rfl) ?_
  refine lv_aload_n hx hb dX12_layWalks_126 rfl (lv_at hl 2 rfl) ?_
  have hPc := hP.sub (ws' := [(a0, .inr (12, MF ad 0 v3 0 (-1) v6 v7 v8 v9 vN 0 v36 v37 v38 v39 v40 v41 0 0 0 0 0)), ((ad 11), .inl (cI, 2, .inl fR))]) [0, 1] rfl
  refine vp_callSi (va_runV (As := []) (rest := [.int 0]) ⟨hx, hb, hml, hown, hts⟩ (m_places l D cI cB cL cZ a0 ad v3 v6 v7 v8 v9 v36 v37 v38 v39 v40 v41 vN fR hf_fR_0) (cwV 0 hts gX12_layWalks_X12_places rfl rfl rfl (by decide +kernel) ⟨Nat.le_of_ble_eq_true rfl, Nat.le_of_ble_eq_true rfl⟩) ⟨xr_blind, va_recv hK hPc (ci := 12) (q0 := 0) rfl rfl, fun U hU hW => xr_mk hU hW hPc hK⟩ rfl rfl hl.1 rfl (lv_room (Nat.le_of_ble_eq_true rfl)) dX12_layWalks_127 ⟨Nat.le_of_ble_eq_true rfl, Nat.le_of_ble_eq_true rfl⟩).run (fun r_57 hr_57 => ?_)
  clear hPc
  subst hr_57
  refine lv_icmp_ge (tgt := 185) hx hb dX12_layWalks_130 (by decide) (fun _ => ?_) (fun c_58 => absurd (by decide) c_58)
  refine lv_aload_n hx hb dX12_layWalks_185 rfl (lv_at hl 2 rfl) ?_
  refine lv_iconst (v := (-1)) hx hb dX12_layWalks_186 (by decide) ?_
  have hPc := hP.sub (ws' := [(a0, .inr (12, MF ad 0 v3 0 (-1) v6 v7 v8 v9 vN 0 v36 v37 v38 v39 v40 v41 0 0 0 0 0)), ((ad 11), .inl (cI, 2, .inl fR))]) [0, 1] rfl
  refine va_csv (va_runV (As := [.int (-1)]) (rest := []) ⟨hx, hb, hml, hown, hts⟩ (m_stepOn l D cI cB cL cZ a0 ad v3 v6 v7 v8 v9 v36 v37 v38 v39 v40 v41 vN fR ((-1)) hf_fR_0) (cwV 1 hts gX12_layWalks_X12_stepOn rfl rfl rfl (by decide +kernel) ⟨Nat.le_of_ble_eq_true rfl, Nat.le_of_ble_eq_true rfl⟩) ⟨xr_blind, va_recv hK hPc (ci := 12) (q0 := 0) rfl rfl, fun U hU hW => xr_mk hU hW hPc hK⟩ rfl rfl hl.1 rfl (lv_room (Nat.le_of_ble_eq_true rfl)) dX12_layWalks_187 ⟨Nat.le_of_ble_eq_true rfl, Nat.le_of_ble_eq_true rfl⟩).run (fun _ => ?_)
  clear hPc
  refine lv_iinc (v := 5) (lv' := [(2, .int 5), (3, .int 0), (0, .ref a0), (1, .int x)]) hx hb dX12_layWalks_190 hl (k := 1) rfl (by decide) (by decide) rfl (fun ls hl => ?_)
  refine lv_goto (tgt := 119) hx hb dX12_layWalks_193 (by decide) ?_
  refine lv_iload_n hx hb dX12_layWalks_119 rfl (lv_at hl 0 rfl) ?_
  refine lv_if_lt (tgt := 196) hx hb dX12_layWalks_120 (by decide) (fun c_60 => absurd c_60 (by decide)) (fun _ => ?_)
  refine lv_iconst (v := 0) hx hb dX12_layWalks_123 (by decide) ?_
  refine lv_istore_n (lv' := [(3, .int 0), (2, .int 5), (0, .ref a0), (1, .int x)]) hx hb dX12_layWalks_124 rfl hl (by decide) rfl (fun ls hl => ?_)
  refine lv_iload_n hx hb dX12_layWalks_125 rfl (lv_at hl 0 rfl) ?_
  refine lv_aload_n hx hb dX12_layWalks_126 rfl (lv_at hl 2 rfl) ?_
  have hPc := hP.sub (ws' := [(a0, .inr (12, MF ad 0 v3 0 (-1) v6 v7 v8 v9 vN 0 v36 v37 v38 v39 v40 v41 0 0 0 0 0)), ((ad 11), .inl (cI, 2, .inl fR))]) [0, 1] rfl
  refine vp_callSi (va_runV (As := []) (rest := [.int 0]) ⟨hx, hb, hml, hown, hts⟩ (m_places l D cI cB cL cZ a0 ad v3 v6 v7 v8 v9 v36 v37 v38 v39 v40 v41 vN fR hf_fR_0) (cwV 0 hts gX12_layWalks_X12_places rfl rfl rfl (by decide +kernel) ⟨Nat.le_of_ble_eq_true rfl, Nat.le_of_ble_eq_true rfl⟩) ⟨xr_blind, va_recv hK hPc (ci := 12) (q0 := 0) rfl rfl, fun U hU hW => xr_mk hU hW hPc hK⟩ rfl rfl hl.1 rfl (lv_room (Nat.le_of_ble_eq_true rfl)) dX12_layWalks_127 ⟨Nat.le_of_ble_eq_true rfl, Nat.le_of_ble_eq_true rfl⟩).run (fun r_61 hr_61 => ?_)
  clear hPc
  subst hr_61
  refine lv_icmp_ge (tgt := 185) hx hb dX12_layWalks_130 (by decide) (fun _ => ?_) (fun c_62 => absurd (by decide) c_62)
  refine lv_aload_n hx hb dX12_layWalks_185 rfl (lv_at hl 2 rfl) ?_
  refine lv_iconst (v := (-1)) hx hb dX12_layWalks_186 (by decide) ?_
  have hPc := hP.sub (ws' := [(a0, .inr (12, MF ad 0 v3 0 (-1) v6 v7 v8 v9 vN 0 v36 v37 v38 v39 v40 v41 0 0 0 0 0)), ((ad 11), .inl (cI, 2, .inl fR))]) [0, 1] rfl
  refine va_csv (va_runV (As := [.int (-1)]) (rest := []) ⟨hx, hb, hml, hown, hts⟩ (m_stepOn l D cI cB cL cZ a0 ad v3 v6 v7 v8 v9 v36 v37 v38 v39 v40 v41 vN fR ((-1)) hf_fR_0) (cwV 1 hts gX12_layWalks_X12_stepOn rfl rfl rfl (by decide +kernel) ⟨Nat.le_of_ble_eq_true rfl, Nat.le_of_ble_eq_true rfl⟩) ⟨xr_blind, va_recv hK hPc (ci := 12) (q0 := 0) rfl rfl, fun U hU hW => xr_mk hU hW hPc hK⟩ rfl rfl hl.1 rfl (lv_room (Nat.le_of_ble_eq_true rfl)) dX12_layWalks_187 ⟨Nat.le_of_ble_eq_true rfl, Nat.le_of_ble_eq_true rfl⟩).run (fun _ => ?_)
  clear hPc
  refine lv_iinc (v := 4) (lv' := [(2, .int 4), (3, .int 0), (0, .ref a0), (1, .int x)]) hx hb dX12_layWalks_190 hl (k := 1) rfl (by decide) (by decide) rfl (fun ls hl => ?_)
  refine lv_goto (tgt := 119) hx hb dX12_layWalks_193 (by decide) ?_
  refine lv_iload_n hx hb dX12_layWalks_119 rfl (lv_at hl 0 rfl) ?_
  refine lv_if_lt (tgt := 196) hx hb dX12_layWalks_120 (by decide) (fun c_64 => absurd c_64 (by decide)) (fun _ => ?_)
  refine lv_iconst (v := 0) hx hb dX12_layWalks_123 (by decide) ?_
  refine lv_istore_n (lv' := [(3, .int 0), (2, .int 4), (0, .ref a0), (1, .int x)]) hx hb dX12_layWalks_124 rfl hl (by decide) rfl (fun ls hl => ?_)
  refine lv_iload_n hx hb dX12_layWalks_125 rfl (lv_at hl 0 rfl) ?_
  refine lv_aload_n hx hb dX12_layWalks_126 rfl (lv_at hl 2 rfl) ?_
  have hPc := hP.sub (ws' := [(a0, .inr (12, MF ad 0 v3 0 (-1) v6 v7 v8 v9 vN 0 v36 v37 v38 v39 v40 v41 0 0 0 0 0)), ((ad 11), .inl (cI, 2, .inl fR))]) [0, 1] rfl
  refine vp_callSi (va_runV (As := []) (rest := [.int 0]) ⟨hx, hb, hml, hown, hts⟩ (m_places l D cI cB cL cZ a0 ad v3 v6 v7 v8 v9 v36 v37 v38 v39 v40 v41 vN fR hf_fR_0) (cwV 0 hts gX12_layWalks_X12_places rfl rfl rfl (by decide +kernel) ⟨Nat.le_of_ble_eq_true rfl, Nat.le_of_ble_eq_true rfl⟩) ⟨xr_blind, va_recv hK hPc (ci := 12) (q0 := 0) rfl rfl, fun U hU hW => xr_mk hU hW hPc hK⟩ rfl rfl hl.1 rfl (lv_room (Nat.le_of_ble_eq_true rfl)) dX12_layWalks_127 ⟨Nat.le_of_ble_eq_true rfl, Nat.le_of_ble_eq_true rfl⟩).run (fun r_65 hr_65 => ?_)
  clear hPc
  subst hr_65
  refine lv_icmp_ge (tgt := 185) hx hb dX12_layWalks_130 (by decide) (fun _ => ?_) (fun c_66 => absurd (by decide) c_66)
  refine lv_aload_n hx hb dX12_layWalks_185 rfl (lv_at hl 2 rfl) ?_
  refine lv_iconst (v := (-1)) hx hb dX12_layWalks_186 (by decide) ?_
  have hPc := hP.sub (ws' := [(a0, .inr (12, MF ad 0 v3 0 (-1) v6 v7 v8 v9 vN 0 v36 v37 v38 v39 v40 v41 0 0 0 0 0)), ((ad 11), .inl (cI, 2, .inl fR))]) [0, 1] rfl
  refine va_csv (va_runV (As := [.int (-1)]) (rest := []) ⟨hx, hb, hml, hown, hts⟩ (m_stepOn l D cI cB cL cZ a0 ad v3 v6 v7 v8 v9 v36 v37 v38 v39 v40 v41 vN fR ((-1)) hf_fR_0) (cwV 1 hts gX12_layWalks_X12_stepOn rfl rfl rfl (by decide +kernel) ⟨Nat.le_of_ble_eq_true rfl, Nat.le_of_ble_eq_true rfl⟩) ⟨xr_blind, va_recv hK hPc (ci := 12) (q0 := 0) rfl rfl, fun U hU hW => xr_mk hU hW hPc hK⟩ rfl rfl hl.1 rfl (lv_room (Nat.le_of_ble_eq_true rfl)) dX12_layWalks_187 ⟨Nat.le_of_ble_eq_true rfl, Nat.le_of_ble_eq_true rfl⟩).run (fun _ => ?_)
  clear hPc
  refine lv_iinc (v := 3) (lv' := [(2, .int 3), (3, .int 0), (0, .ref a0), (1, .int x)]) hx hb dX12_layWalks_190 hl (k := 1) rfl (by decide) (by decide) rfl (fun ls hl => ?_)
  refine lv_goto (tgt := 119) hx hb dX12_layWalks_193 (by decide) ?_
  refine lv_iload_n hx hb dX12_layWalks_119 rfl (lv_at hl 0 rfl) ?_
  refine lv_if_lt (tgt := 196) hx hb dX12_layWalks_120 (by decide) (fun c_68 => absurd c_68 (by decide)) (fun _ => ?_)
  refine lv_iconst (v := 0) hx hb dX12_layWalks_123 (by decide) ?_
  refine lv_istore_n (lv' := [(3, .int 0), (2, .int 3), (0, .ref a0), (1, .int x)]) hx hb dX12_layWalks_124 rfl hl (by decide) rfl (fun ls hl => ?_)
  refine lv_iload_n hx hb dX12_layWalks_125 rfl (lv_at hl 0 rfl) ?_
  refine lv_aload_n hx hb dX12_layWalks_126 rfl (lv_at hl 2 rfl) ?_
  have hPc := hP.sub (ws' := [(a0, .inr (12, MF ad 0 v3 0 (-1) v6 v7 v8 v9 vN 0 v36 v37 v38 v39 v40 v41 0 0 0 0 0)), ((ad 11), .inl (cI, 2, .inl fR))]) [0, 1] rfl
  refine vp_callSi (va_runV (As := []) (rest := [.int 0]) ⟨hx, hb, hml, hown, hts⟩ (m_places l D cI cB cL cZ a0 ad v3 v6 v7 v8 v9 v36 v37 v38 v39 v40 v41 vN fR hf_fR_0) (cwV 0 hts gX12_layWalks_X12_places rfl rfl rfl (by decide +kernel) ⟨Nat.le_of_ble_eq_true rfl, Nat.le_of_ble_eq_true rfl⟩) ⟨xr_blind, va_recv hK hPc (ci := 12) (q0 := 0) rfl rfl, fun U hU hW => xr_mk hU hW hPc hK⟩ rfl rfl hl.1 rfl (lv_room (Nat.le_of_ble_eq_true rfl)) dX12_layWalks_127 ⟨Nat.le_of_ble_eq_true rfl, Nat.le_of_ble_eq_true rfl⟩).run (fun r_69 hr_69 => ?_)
  clear hPc
  subst hr_69
  refine lv_icmp_ge (tgt := 185) hx hb dX12_layWalks_130 (by decide) (fun _ => ?_) (fun c_70 => absurd (by decide) c_70)
  refine lv_aload_n hx hb dX12_layWalks_185 rfl (lv_at hl 2 rfl) ?_
  refine lv_iconst (v := (-1)) hx hb dX12_layWalks_186 (by decide) ?_
  have hPc := hP.sub (ws' := [(a0, .inr (12, MF ad 0 v3 0 (-1) v6 v7 v8 v9 vN 0 v36 v37 v38 v39 v40 v41 0 0 0 0 0)), ((ad 11), .inl (cI, 2, .inl fR))]) [0, 1] rfl
  refine va_csv (va_runV (As := [.int (-1)]) (rest := []) ⟨hx, hb, hml, hown, hts⟩ (m_stepOn l D cI cB cL cZ a0 ad v3 v6 v7 v8 v9 v36 v37 v38 v39 v40 v41 vN fR ((-1)) hf_fR_0) (cwV 1 hts gX12_layWalks_X12_stepOn rfl rfl rfl (by decide +kernel) ⟨Nat.le_of_ble_eq_true rfl, Nat.le_of_ble_eq_true rfl⟩) ⟨xr_blind, va_recv hK hPc (ci := 12) (q0 := 0) rfl rfl, fun U hU hW => xr_mk hU hW hPc hK⟩ rfl rfl hl.1 rfl (lv_room (Nat.le_of_ble_eq_true rfl)) dX12_layWalks_187 ⟨Nat.le_of_ble_eq_true rfl, Nat.le_of_ble_eq_true rfl⟩).run (fun _ => ?_)
  clear hPc
  refine lv_iinc (v := 2) (lv' := [(2, .int 2), (3, .int 0), (0, .ref a0), (1, .int x)]) hx hb dX12_layWalks_190 hl (k := 1) rfl (by decide) (by decide) rfl (fun ls hl => ?_)
  refine lv_goto (tgt := 119) hx hb dX12_layWalks_193 (by decide) ?_
  refine lv_iload_n hx hb dX12_layWalks_119 rfl (lv_at hl 0 rfl) ?_
  refine lv_if_lt (tgt := 196) hx hb dX12_layWalks_120 (by decide) (fun c_72 => absurd c_72 (by decide)) (fun _ => ?_)
  refine lv_iconst (v := 0) hx hb dX12_layWalks_123 (by decide) ?_
  refine lv_istore_n (lv' := [(3, .int 0), (2, .int 2), (0, .ref a0), (1, .int x)]) hx hb dX12_layWalks_124 rfl hl (by decide) rfl (fun ls hl => ?_)
  refine lv_iload_n hx hb dX12_layWalks_125 rfl (lv_at hl 0 rfl) ?_
  refine lv_aload_n hx hb dX12_layWalks_126 rfl (lv_at hl 2 rfl) ?_
  have hPc := hP.sub (ws' := [(a0, .inr (12, MF ad 0 v3 0 (-1) v6 v7 v8 v9 vN 0 v36 v37 v38 v39 v40 v41 0 0 0 0 0)), ((ad 11), .inl (cI, 2, .inl fR))]) [0, 1] rfl
  refine vp_callSi (va_runV (As := []) (rest := [.int 0]) ⟨hx, hb, hml, hown, hts⟩ (m_places l D cI cB cL cZ a0 ad v3 v6 v7 v8 v9 v36 v37 v38 v39 v40 v41 vN fR hf_fR_0) (cwV 0 hts gX12_layWalks_X12_places rfl rfl rfl (by decide +kernel) ⟨Nat.le_of_ble_eq_true rfl, Nat.le_of_ble_eq_true rfl⟩) ⟨xr_blind, va_recv hK hPc (ci := 12) (q0 := 0) rfl rfl, fun U hU hW => xr_mk hU hW hPc hK⟩ rfl rfl hl.1 rfl (lv_room (Nat.le_of_ble_eq_true rfl)) dX12_layWalks_127 ⟨Nat.le_of_ble_eq_true rfl, Nat.le_of_ble_eq_true rfl⟩).run (fun r_73 hr_73 => ?_)
  clear hPc
  subst hr_73
  refine lv_icmp_ge (tgt := 185) hx hb dX12_layWalks_130 (by decide) (fun _ => ?_) (fun c_74 => absurd (by decide) c_74)
  refine lv_aload_n hx hb dX12_layWalks_185 rfl (lv_at hl 2 rfl) ?_
  refine lv_iconst (v := (-1)) hx hb dX12_layWalks_186 (by decide) ?_
  have hPc := hP.sub (ws' := [(a0, .inr (12, MF ad 0 v3 0 (-1) v6 v7 v8 v9 vN 0 v36 v37 v38 v39 v40 v41 0 0 0 0 0)), ((ad 11), .inl (cI, 2, .inl fR))]) [0, 1] rfl
  refine va_csv (va_runV (As := [.int (-1)]) (rest := []) ⟨hx, hb, hml, hown, hts⟩ (m_stepOn l D cI cB cL cZ a0 ad v3 v6 v7 v8 v9 v36 v37 v38 v39 v40 v41 vN fR ((-1)) hf_fR_0) (cwV 1 hts gX12_layWalks_X12_stepOn rfl rfl rfl (by decide +kernel) ⟨Nat.le_of_ble_eq_true rfl, Nat.le_of_ble_eq_true rfl⟩) ⟨xr_blind, va_recv hK hPc (ci := 12) (q0 := 0) rfl rfl, fun U hU hW => xr_mk hU hW hPc hK⟩ rfl rfl hl.1 rfl (lv_room (Nat.le_of_ble_eq_true rfl)) dX12_layWalks_187 ⟨Nat.le_of_ble_eq_true rfl, Nat.le_of_ble_eq_true rfl⟩).run (fun _ => ?_)
  clear hPc
  refine lv_iinc (v := 1) (lv' := [(2, .int 1), (3, .int 0), (0, .ref a0), (1, .int x)]) hx hb dX12_layWalks_190 hl (k := 1) rfl (by decide) (by decide) rfl (fun ls hl => ?_)
  refine lv_goto (tgt := 119) hx hb dX12_layWalks_193 (by decide) ?_
  refine lv_iload_n hx hb dX12_layWalks_119 rfl (lv_at hl 0 rfl) ?_
  refine lv_if_lt (tgt := 196) hx hb dX12_layWalks_120 (by decide) (fun c_76 => absurd c_76 (by decide)) (fun _ => ?_)
  refine lv_iconst (v := 0) hx hb dX12_layWalks_123 (by decide) ?_
  refine lv_istore_n (lv' := [(3, .int 0), (2, .int 1), (0, .ref a0), (1, .int x)]) hx hb dX12_layWalks_124 rfl hl (by decide) rfl (fun ls hl => ?_)
  refine lv_iload_n hx hb dX12_layWalks_125 rfl (lv_at hl 0 rfl) ?_
  refine lv_aload_n hx hb dX12_layWalks_126 rfl (lv_at hl 2 rfl) ?_
  have hPc := hP.sub (ws' := [(a0, .inr (12, MF ad 0 v3 0 (-1) v6 v7 v8 v9 vN 0 v36 v37 v38 v39 v40 v41 0 0 0 0 0)), ((ad 11), .inl (cI, 2, .inl fR))]) [0, 1] rfl
  refine vp_callSi (va_runV (As := []) (rest := [.int 0]) ⟨hx, hb, hml, hown, hts⟩ (m_places l D cI cB cL cZ a0 ad v3 v6 v7 v8 v9 v36 v37 v38 v39 v40 v41 vN fR hf_fR_0) (cwV 0 hts gX12_layWalks_X12_places rfl rfl rfl (by decide +kernel) ⟨Nat.le_of_ble_eq_true rfl, Nat.le_of_ble_eq_true rfl⟩) ⟨xr_blind, va_recv hK hPc (ci := 12) (q0 := 0) rfl rfl, fun U hU hW => xr_mk hU hW hPc hK⟩ rfl rfl hl.1 rfl (lv_room (Nat.le_of_ble_eq_true rfl)) dX12_layWalks_127 ⟨Nat.le_of_ble_eq_true rfl, Nat.le_of_ble_eq_true rfl⟩).run (fun r_77 hr_77 => ?_)
  clear hPc
  subst hr_77
  refine lv_icmp_ge (tgt := 185) hx hb dX12_layWalks_130 (by decide) (fun _ => ?_) (fun c_78 => absurd (by decide) c_78)
  refine lv_aload_n hx hb dX12_layWalks_185 rfl (lv_at hl 2 rfl) ?_
  refine lv_iconst (v := (-1)) hx hb dX12_layWalks_186 (by decide) ?_
  have hPc := hP.sub (ws' := [(a0, .inr (12, MF ad 0 v3 0 (-1) v6 v7 v8 v9 vN 0 v36 v37 v38 v39 v40 v41 0 0 0 0 0)), ((ad 11), .inl (cI, 2, .inl fR))]) [0, 1] rfl
  refine va_csv (va_runV (As := [.int (-1)]) (rest := []) ⟨hx, hb, hml, hown, hts⟩ (m_stepOn l D cI cB cL cZ a0 ad v3 v6 v7 v8 v9 v36 v37 v38 v39 v40 v41 vN fR ((-1)) hf_fR_0) (cwV 1 hts gX12_layWalks_X12_stepOn rfl rfl rfl (by decide +kernel) ⟨Nat.le_of_ble_eq_true rfl, Nat.le_of_ble_eq_true rfl⟩) ⟨xr_blind, va_recv hK hPc (ci := 12) (q0 := 0) rfl rfl, fun U hU hW => xr_mk hU hW hPc hK⟩ rfl rfl hl.1 rfl (lv_room (Nat.le_of_ble_eq_true rfl)) dX12_layWalks_187 ⟨Nat.le_of_ble_eq_true rfl, Nat.le_of_ble_eq_true rfl⟩).run (fun _ => ?_)
  clear hPc
  refine lv_iinc (v := 0) (lv' := [(2, .int 0), (3, .int 0), (0, .ref a0), (1, .int x)]) hx hb dX12_layWalks_190 hl (k := 1) rfl (by decide) (by decide) rfl (fun ls hl => ?_)
  refine lv_goto (tgt := 119) hx hb dX12_layWalks_193 (by decide) ?_
  refine lv_iload_n hx hb dX12_layWalks_119 rfl (lv_at hl 0 rfl) ?_
  refine lv_if_lt (tgt := 196) hx hb dX12_layWalks_120 (by decide) (fun c_80 => absurd c_80 (by decide)) (fun _ => ?_)
  refine lv_iconst (v := 0) hx hb dX12_layWalks_123 (by decide) ?_
  refine lv_istore_n (lv' := [(3, .int 0), (2, .int 0), (0, .ref a0), (1, .int x)]) hx hb dX12_layWalks_124 rfl hl (by decide) rfl (fun ls hl => ?_)
  refine lv_iload_n hx hb dX12_layWalks_125 rfl (lv_at hl 0 rfl) ?_
  refine lv_aload_n hx hb dX12_layWalks_126 rfl (lv_at hl 2 rfl) ?_
  have hPc := hP.sub (ws' := [(a0, .inr (12, MF ad 0 v3 0 (-1) v6 v7 v8 v9 vN 0 v36 v37 v38 v39 v40 v41 0 0 0 0 0)), ((ad 11), .inl (cI, 2, .inl fR))]) [0, 1] rfl
  refine vp_callSi (va_runV (As := []) (rest := [.int 0]) ⟨hx, hb, hml, hown, hts⟩ (m_places l D cI cB cL cZ a0 ad v3 v6 v7 v8 v9 v36 v37 v38 v39 v40 v41 vN fR hf_fR_0) (cwV 0 hts gX12_layWalks_X12_places rfl rfl rfl (by decide +kernel) ⟨Nat.le_of_ble_eq_true rfl, Nat.le_of_ble_eq_true rfl⟩) ⟨xr_blind, va_recv hK hPc (ci := 12) (q0 := 0) rfl rfl, fun U hU hW => xr_mk hU hW hPc hK⟩ rfl rfl hl.1 rfl (lv_room (Nat.le_of_ble_eq_true rfl)) dX12_layWalks_127 ⟨Nat.le_of_ble_eq_true rfl, Nat.le_of_ble_eq_true rfl⟩).run (fun r_81 hr_81 => ?_)
  clear hPc
  subst hr_81
  refine lv_icmp_ge (tgt := 185) hx hb dX12_layWalks_130 (by decide) (fun _ => ?_) (fun c_82 => absurd (by decide) c_82)
  refine lv_aload_n hx hb dX12_layWalks_185 rfl (lv_at hl 2 rfl) ?_
  refine lv_iconst (v := (-1)) hx hb dX12_layWalks_186 (by decide) ?_
  have hPc := hP.sub (ws' := [(a0, .inr (12, MF ad 0 v3 0 (-1) v6 v7 v8 v9 vN 0 v36 v37 v38 v39 v40 v41 0 0 0 0 0)), ((ad 11), .inl (cI, 2, .inl fR))]) [0, 1] rfl
  refine va_csv (va_runV (As := [.int (-1)]) (rest := []) ⟨hx, hb, hml, hown, hts⟩ (m_stepOn l D cI cB cL cZ a0 ad v3 v6 v7 v8 v9 v36 v37 v38 v39 v40 v41 vN fR ((-1)) hf_fR_0) (cwV 1 hts gX12_layWalks_X12_stepOn rfl rfl rfl (by decide +kernel) ⟨Nat.le_of_ble_eq_true rfl, Nat.le_of_ble_eq_true rfl⟩) ⟨xr_blind, va_recv hK hPc (ci := 12) (q0 := 0) rfl rfl, fun U hU hW => xr_mk hU hW hPc hK⟩ rfl rfl hl.1 rfl (lv_room (Nat.le_of_ble_eq_true rfl)) dX12_layWalks_187 ⟨Nat.le_of_ble_eq_true rfl, Nat.le_of_ble_eq_true rfl⟩).run (fun _ => ?_)
  clear hPc
  refine lv_iinc (v := (-1)) (lv' := [(2, .int (-1)), (3, .int 0), (0, .ref a0), (1, .int x)]) hx hb dX12_layWalks_190 hl (k := 1) rfl (by decide) (by decide) rfl (fun ls hl => ?_)
  refine lv_goto (tgt := 119) hx hb dX12_layWalks_193 (by decide) ?_
  refine lv_iload_n hx hb dX12_layWalks_119 rfl (lv_at hl 0 rfl) ?_
  refine lv_if_lt (tgt := 196) hx hb dX12_layWalks_120 (by decide) (fun _ => ?_) (fun c_84 => absurd (by decide) c_84)
  exact W.vret hx hb hr (fun t ht hW => ⟨rfl, trivial, ht⟩) (fun q hq => by cases hq) dX12_layWalks_196
set_option maxHeartbeats 4000000 in
set_option maxRecDepth 100000 in
theorem m_allWalks (l : Launch) (D : va_G) (cI : ClassId) (cB : ClassId) (cL : ClassId) (cZ : ClassId) (a0 : Nat) (ad : Nat → Nat) (v3 : Int32) (v6 : Int32) (v7 : Int32) (v8 : Int32) (v9 : Int32) (v36 : Int32) (v37 : Int32) (v38 : Int32) (v39 : Int32) (v40 : Int32) (v41 : Int32) (vN : Int64) (fR : Nat → Int32) (hf_fR_0 : fR 0 = 0) : Met l yX12_allWalks wsX12_allWalks ({ frames := 1, cells := 0, slots := 0, locals := 20 }) (xr D [(cI, .int), (cB, .byte), (cL, .long), (cZ, .boolean)] [(a0, .inr (12, MF ad 0 v3 0 (-1) v6 v7 v8 v9 vN 0 v36 v37 v38 v39 v40 v41 0 0 0 0 0)), ((ad 11), .inl (cI, 2, .inl fR))] [.ref a0]) (vp_Si (fun r => r = 0)) 0 0 (fun _ => False) := by
  refine Met.ofW (cc := cX12_allWalks) (maxL := 3) (ret := (some .int)) (by decide) rfl ?_
  intro p e s m args below meth c s₁ B hml hv
  obtain ⟨rfl, hP, hK⟩ := hv
  have hx := B.exec
  have hb := B.bytes
  have hr := B.returns
  have hts := atoms_spec (ws := wsX12_allWalks) B.pre
  have hown : s.vm.findClass RX12 = some m.cls := findClass_of_methodNamed B.named
  have hlocks := B.notSynchronized
  have hl := lv_entry ([.ref a0]) (n := 3) (Nat.le_of_ble_eq_true rfl)
  rw [lg_entry_eq]
  generalize (lg_sl ([.ref a0]) ++ List.replicate (3 - (lg_sl ([.ref a0])).length) Slot.unset).toArray = ls at hl ⊢
  replace hl : lv_has ls 3 [(0, .ref a0)] := hl
  refine lv_iconst (v := 0) hx hb dX12_allWalks_0 (by decide) ?_
  refine lv_istore_n (lv' := [(1, .int 0), (0, .ref a0)]) hx hb dX12_allWalks_1 rfl hl (by decide) rfl (fun ls hl => ?_)
  refine lv_iconst (v := 0) hx hb dX12_allWalks_2 (by decide) ?_
  refine lv_istore_n (lv' := [(2, .int 0), (1, .int 0), (0, .ref a0)]) hx hb dX12_allWalks_3 rfl hl (by decide) rfl (fun ls hl => ?_)
  refine lv_iload_n hx hb dX12_allWalks_4 rfl (lv_at hl 0 rfl) ?_
  refine lv_aload_n hx hb dX12_allWalks_5 rfl (lv_at hl 2 rfl) ?_
  have hPc := hP.sub (ws' := [(a0, .inr (12, MF ad 0 v3 0 (-1) v6 v7 v8 v9 vN 0 v36 v37 v38 v39 v40 v41 0 0 0 0 0)), ((ad 11), .inl (cI, 2, .inl fR))]) [0, 1] rfl
  refine vp_callSi (va_runV (As := []) (rest := [.int 0]) ⟨hx, hb, hml, hown, hts⟩ (m_places l D cI cB cL cZ a0 ad v3 v6 v7 v8 v9 v36 v37 v38 v39 v40 v41 vN fR hf_fR_0) (cwV 0 hts gX12_allWalks_X12_places rfl rfl rfl (by decide +kernel) ⟨Nat.le_of_ble_eq_true rfl, Nat.le_of_ble_eq_true rfl⟩) ⟨xr_blind, va_recv hK hPc (ci := 12) (q0 := 0) rfl rfl, fun U hU hW => xr_mk hU hW hPc hK⟩ rfl rfl hl.1 rfl (lv_room (Nat.le_of_ble_eq_true rfl)) dX12_allWalks_6 ⟨Nat.le_of_ble_eq_true rfl, Nat.le_of_ble_eq_true rfl⟩).run (fun r_1 hr_1 => ?_)
  clear hPc
  subst hr_1
  refine lv_icmp_ge (tgt := 27) hx hb dX12_allWalks_9 (by decide) (fun _ => ?_) (fun c_2 => absurd (by decide) c_2)
  refine lv_iload_n hx hb dX12_allWalks_27 rfl (lv_at hl 1 rfl) ?_
  exact W.iret (v := 0) hx hb hr (fun t ht hW => ⟨0, rfl, rfl, ht⟩) (fun q hq => by cases hq) dX12_allWalks_28
set_option maxHeartbeats 4000000 in
set_option maxRecDepth 100000 in
theorem m_walks (l : Launch) (D : va_G) (cI : ClassId) (cB : ClassId) (cL : ClassId) (cZ : ClassId) (a0 : Nat) (ad : Nat → Nat) (v3 : Int32) (v6 : Int32) (v7 : Int32) (v8 : Int32) (v9 : Int32) (v36 : Int32) (v37 : Int32) (v38 : Int32) (v39 : Int32) (v40 : Int32) (v41 : Int32) (vN : Int64) (fR : Nat → Int32) (x : Int32) (hf_fR_0 : fR 0 = 0) : Met l yX12_walks wsX12_walks ({ frames := 3, cells := 0, slots := 0, locals := 69 }) (xr D [(cI, .int), (cB, .byte), (cL, .long), (cZ, .boolean)] [(a0, .inr (12, MF ad 0 v3 0 (-1) v6 v7 v8 v9 vN 0 v36 v37 v38 v39 v40 v41 0 0 0 0 0)), ((ad 11), .inl (cI, 2, .inl fR))] [.ref a0, .int x]) (vp_Si (fun r => r = 0)) 0 0 (fun _ => False) := by
  refine Met.ofW (cc := cX12_walks) (maxL := 2) (ret := (some .int)) (by decide) rfl ?_
  intro p e s m args below meth c s₁ B hml hv
  obtain ⟨rfl, hP, hK⟩ := hv
  have hx := B.exec
  have hb := B.bytes
  have hr := B.returns
  have hts := atoms_spec (ws := wsX12_walks) B.pre
  have hown : s.vm.findClass RX12 = some m.cls := findClass_of_methodNamed B.named
  have hlocks := B.notSynchronized
  have hl := lv_entry ([.ref a0, .int x]) (n := 2) (Nat.le_of_ble_eq_true rfl)
  rw [lg_entry_eq]
  generalize (lg_sl ([.ref a0, .int x]) ++ List.replicate (2 - (lg_sl ([.ref a0, .int x])).length) Slot.unset).toArray = ls at hl ⊢
  replace hl : lv_has ls 2 [(0, .ref a0), (1, .int x)] := hl
  refine lv_aload_n hx hb dX12_walks_0 rfl (lv_at hl 0 rfl) ?_
  refine lv_iload_n hx hb dX12_walks_1 rfl (lv_at hl 1 rfl) ?_
  have hPc := hP.sub (ws' := [(a0, .inr (12, MF ad 0 v3 0 (-1) v6 v7 v8 v9 vN 0 v36 v37 v38 v39 v40 v41 0 0 0 0 0)), ((ad 11), .inl (cI, 2, .inl fR))]) [0, 1] rfl
  refine va_csv (va_runV (As := [.int x]) (rest := []) ⟨hx, hb, hml, hown, hts⟩ (m_layWalks l D cI cB cL cZ a0 ad v3 v6 v7 v8 v9 v36 v37 v38 v39 v40 v41 vN fR x hf_fR_0) (cwV 1 hts gX12_walks_X12_layWalks rfl rfl rfl (by decide +kernel) ⟨Nat.le_of_ble_eq_true rfl, Nat.le_of_ble_eq_true rfl⟩) ⟨xr_blind, va_recv hK hPc (ci := 12) (q0 := 0) rfl rfl, fun U hU hW => xr_mk hU hW hPc hK⟩ rfl rfl hl.1 rfl (lv_room (Nat.le_of_ble_eq_true rfl)) dX12_walks_2 ⟨Nat.le_of_ble_eq_true rfl, Nat.le_of_ble_eq_true rfl⟩).run (fun _ => ?_)
  clear hPc
  refine lv_aload_n hx hb dX12_walks_5 rfl (lv_at hl 0 rfl) ?_
  have hPc := hP.sub (ws' := [(a0, .inr (12, MF ad 0 v3 0 (-1) v6 v7 v8 v9 vN 0 v36 v37 v38 v39 v40 v41 0 0 0 0 0)), ((ad 11), .inl (cI, 2, .inl fR))]) [0, 1] rfl
  refine vp_callSi (va_runV (As := []) (rest := []) ⟨hx, hb, hml, hown, hts⟩ (m_allWalks l D cI cB cL cZ a0 ad v3 v6 v7 v8 v9 v36 v37 v38 v39 v40 v41 vN fR hf_fR_0) (cwV 0 hts gX12_walks_X12_allWalks rfl rfl rfl (by decide +kernel) ⟨Nat.le_of_ble_eq_true rfl, Nat.le_of_ble_eq_true rfl⟩) ⟨xr_blind, va_recv hK hPc (ci := 12) (q0 := 0) rfl rfl, fun U hU hW => xr_mk hU hW hPc hK⟩ rfl rfl hl.1 rfl (lv_room (Nat.le_of_ble_eq_true rfl)) dX12_walks_6 ⟨Nat.le_of_ble_eq_true rfl, Nat.le_of_ble_eq_true rfl⟩).run (fun r_2 hr_2 => ?_)
  clear hPc
  subst hr_2
  exact W.iret (v := 0) hx hb hr (fun t ht hW => ⟨0, rfl, rfl, ht⟩) (fun q hq => by cases hq) dX12_walks_9
set_option maxHeartbeats 4000000 in
set_option maxRecDepth 100000 in
theorem m_certain (l : Launch) (D : va_G) (cI : ClassId) (cB : ClassId) (cL : ClassId) (cZ : ClassId) (a0 : Nat) (ad : Nat → Nat) (v3 : Int32) (v6 : Int32) (v7 : Int32) (v8 : Int32) (v9 : Int32) (v36 : Int32) (v37 : Int32) (v38 : Int32) (v39 : Int32) (v40 : Int32) (v41 : Int32) (vN : Int64) (fR : Nat → Int32) (x : Int32) (y : Int32) (hf_fR_0 : fR 0 = 0) : Met l yX12_certain wsX12_certain ({ frames := 3, cells := 0, slots := 0, locals := 69 }) (xr D [(cI, .int), (cB, .byte), (cL, .long), (cZ, .boolean)] [(a0, .inr (12, MF ad 0 v3 0 (-1) v6 v7 v8 v9 vN 0 v36 v37 v38 v39 v40 v41 0 0 0 0 0)), ((ad 11), .inl (cI, 2, .inl fR))] [.ref a0, .int x, .int y]) (vp_Si (fun r => r = (-1))) 0 0 (fun _ => False) := by
  refine Met.ofW (cc := cX12_certain) (maxL := 5) (ret := (some .int)) (by decide) rfl ?_
  intro p e s m args below meth c s₁ B hml hv
  obtain ⟨rfl, hP, hK⟩ := hv
  have hx := B.exec
  have hb := B.bytes
  have hr := B.returns
  have hts := atoms_spec (ws := wsX12_certain) B.pre
  have hown : s.vm.findClass RX12 = some m.cls := findClass_of_methodNamed B.named
  have hlocks := B.notSynchronized
  have hl := lv_entry ([.ref a0, .int x, .int y]) (n := 5) (Nat.le_of_ble_eq_true rfl)
  rw [lg_entry_eq]
  generalize (lg_sl ([.ref a0, .int x, .int y]) ++ List.replicate (5 - (lg_sl ([.ref a0, .int x, .int y])).length) Slot.unset).toArray = ls at hl ⊢
  replace hl : lv_has ls 5 [(0, .ref a0), (1, .int x), (2, .int y)] := hl
  refine lv_iload_n hx hb dX12_certain_0 rfl (lv_at hl 1 rfl) ?_
  refine lv_iconst (v := 0) hx hb dX12_certain_1 (by decide) ?_
  refine lv_bipush (v := 7) hx hb dX12_certain_2 (by decide) ?_
  have hPc := hP.sub (ws' := []) [] rfl
  refine vp_callSi (va_runS (As := [.int x, .int 0, .int 7]) (rest := []) ⟨hx, hb, hml, hown, hts⟩ (m_isIn l D cI cB cL cZ x 0 7) (va_cwS 3 hts gX12_certain_X12_isIn rfl rfl rfl (by decide +kernel) ⟨Nat.le_of_ble_eq_true rfl, Nat.le_of_ble_eq_true rfl⟩) ⟨xr_blind, fun U hU hW => xr_mk hU hW hPc hK⟩ rfl rfl hl.1 rfl (lv_room (Nat.le_of_ble_eq_true rfl)) dX12_certain_4 ⟨Nat.le_of_ble_eq_true rfl, Nat.le_of_ble_eq_true rfl⟩).run (fun r_1 hr_1 => ?_)
  clear hPc
  rcases hr_1 with ⟨rfl, hr_1_0, hr_1_1⟩ | ⟨rfl, hr_1_0⟩ | ⟨rfl, hr_1_0, hr_1_1⟩
  · refine lv_if_ne (tgt := 12) hx hb dX12_certain_7 (by decide) (fun _ => ?_) (fun c_2 => absurd c_2 (by decide))
    refine lv_aload_n hx hb dX12_certain_12 rfl (lv_at hl 0 rfl) ?_
    refine lv_iload_n hx hb dX12_certain_13 rfl (lv_at hl 2 rfl) ?_
    have hPc := hP.sub (ws' := [(a0, .inr (12, MF ad 0 v3 0 (-1) v6 v7 v8 v9 vN 0 v36 v37 v38 v39 v40 v41 0 0 0 0 0)), ((ad 11), .inl (cI, 2, .inl fR))]) [0, 1] rfl
    refine va_csv (va_runV (As := [.int y]) (rest := []) ⟨hx, hb, hml, hown, hts⟩ (m_layWalks l D cI cB cL cZ a0 ad v3 v6 v7 v8 v9 v36 v37 v38 v39 v40 v41 vN fR y hf_fR_0) (cwV 1 hts gX12_certain_X12_layWalks rfl rfl rfl (by decide +kernel) ⟨Nat.le_of_ble_eq_true rfl, Nat.le_of_ble_eq_true rfl⟩) ⟨xr_blind, va_recv hK hPc (ci := 12) (q0 := 0) rfl rfl, fun U hU hW => xr_mk hU hW hPc hK⟩ rfl rfl hl.1 rfl (lv_room (Nat.le_of_ble_eq_true rfl)) dX12_certain_14 ⟨Nat.le_of_ble_eq_true rfl, Nat.le_of_ble_eq_true rfl⟩).run (fun _ => ?_)
    clear hPc
    refine lv_aload_n hx hb dX12_certain_17 rfl (lv_at hl 0 rfl) ?_
    have hPc := hP.sub (ws' := [(a0, .inr (12, MF ad 0 v3 0 (-1) v6 v7 v8 v9 vN 0 v36 v37 v38 v39 v40 v41 0 0 0 0 0)), ((ad 11), .inl (cI, 2, .inl fR))]) [0, 1] rfl
    refine vp_callSi (va_runV (As := []) (rest := []) ⟨hx, hb, hml, hown, hts⟩ (m_allWalks l D cI cB cL cZ a0 ad v3 v6 v7 v8 v9 v36 v37 v38 v39 v40 v41 vN fR hf_fR_0) (cwV 0 hts gX12_certain_X12_allWalks rfl rfl rfl (by decide +kernel) ⟨Nat.le_of_ble_eq_true rfl, Nat.le_of_ble_eq_true rfl⟩) ⟨xr_blind, va_recv hK hPc (ci := 12) (q0 := 0) rfl rfl, fun U hU hW => xr_mk hU hW hPc hK⟩ rfl rfl hl.1 rfl (lv_room (Nat.le_of_ble_eq_true rfl)) dX12_certain_18 ⟨Nat.le_of_ble_eq_true rfl, Nat.le_of_ble_eq_true rfl⟩).run (fun r_4 hr_4 => ?_)
    clear hPc
    subst hr_4
    refine lv_istore_n (lv' := [(3, .int 0), (0, .ref a0), (1, .int x), (2, .int y)]) hx hb dX12_certain_21 rfl hl (by decide) rfl (fun ls hl => ?_)
    refine lv_iload_n hx hb dX12_certain_22 rfl (lv_at hl 0 rfl) ?_
    refine lv_if_ne (tgt := 28) hx hb dX12_certain_23 (by decide) (fun c_5 => absurd (by decide) c_5) (fun _ => ?_)
    refine lv_iconst (v := (-1)) hx hb dX12_certain_26 (by decide) ?_
    exact W.iret (v := (-1)) hx hb hr (fun t ht hW => ⟨(-1), rfl, rfl, ht⟩) (fun q hq => by cases hq) dX12_certain_27
  · refine lv_if_ne (tgt := 12) hx hb dX12_certain_7 (by decide) (fun c_6 => absurd (by decide) c_6) (fun _ => ?_)
    refine lv_iconst (v := (-1)) hx hb dX12_certain_10 (by decide) ?_
    exact W.iret (v := (-1)) hx hb hr (fun t ht hW => ⟨(-1), rfl, rfl, ht⟩) (fun q hq => by cases hq) dX12_certain_11
  · refine lv_if_ne (tgt := 12) hx hb dX12_certain_7 (by decide) (fun c_7 => absurd (by decide) c_7) (fun _ => ?_)
    refine lv_iconst (v := (-1)) hx hb dX12_certain_10 (by decide) ?_
    exact W.iret (v := (-1)) hx hb hr (fun t ht hW => ⟨(-1), rfl, rfl, ht⟩) (fun q hq => by cases hq) dX12_certain_11
set_option maxHeartbeats 4000000 in
set_option maxRecDepth 100000 in
theorem m_ask (l : Launch) (D : va_G) (cI : ClassId) (cB : ClassId) (cL : ClassId) (cZ : ClassId) (a0 : Nat) (ad : Nat → Nat) (v3 : Int32) (v6 : Int32) (v7 : Int32) (v8 : Int32) (v9 : Int32) (v36 : Int32) (v37 : Int32) (v38 : Int32) (v39 : Int32) (v40 : Int32) (v41 : Int32) (vN : Int64) (fR : Nat → Int32) (x : Int32) (y : Int32) (hf_fR_0 : fR 0 = 0) : Met l yX12_ask wsX12_ask ({ frames := 3, cells := 0, slots := 0, locals := 69 }) (xr D [(cI, .int), (cB, .byte), (cL, .long), (cZ, .boolean)] [(a0, .inr (12, MF ad 0 v3 0 (-1) v6 v7 v8 v9 vN 0 v36 v37 v38 v39 v40 v41 0 0 0 0 0)), ((ad 11), .inl (cI, 2, .inl fR))] [.ref a0, .int x, .int y]) (vp_Si (fun r => r = (-1))) 0 0 (fun _ => False) := by
  refine Met.ofW (cc := cX12_ask) (maxL := 8) (ret := (some .int)) (by decide) rfl ?_
  intro p e s m args below meth c s₁ B hml hv
  obtain ⟨rfl, hP, hK⟩ := hv
  have hx := B.exec
  have hb := B.bytes
  have hr := B.returns
  have hts := atoms_spec (ws := wsX12_ask) B.pre
  have hown : s.vm.findClass RX12 = some m.cls := findClass_of_methodNamed B.named
  have hlocks := B.notSynchronized
  have hl := lv_entry ([.ref a0, .int x, .int y]) (n := 8) (Nat.le_of_ble_eq_true rfl)
  rw [lg_entry_eq]
  generalize (lg_sl ([.ref a0, .int x, .int y]) ++ List.replicate (8 - (lg_sl ([.ref a0, .int x, .int y])).length) Slot.unset).toArray = ls at hl ⊢
  replace hl : lv_has ls 8 [(0, .ref a0), (1, .int x), (2, .int y)] := hl
  refine lv_iload_n hx hb dX12_ask_0 rfl (lv_at hl 1 rfl) ?_
  refine lv_iconst (v := 0) hx hb dX12_ask_1 (by decide) ?_
  refine lv_iconst (v := 1) hx hb dX12_ask_2 (by decide) ?_
  have hPc := hP.sub (ws' := []) [] rfl
  refine vp_callSi (va_runS (As := [.int x, .int 0, .int 1]) (rest := []) ⟨hx, hb, hml, hown, hts⟩ (m_isIn l D cI cB cL cZ x 0 1) (va_cwS 3 hts gX12_ask_X12_isIn rfl rfl rfl (by decide +kernel) ⟨Nat.le_of_ble_eq_true rfl, Nat.le_of_ble_eq_true rfl⟩) ⟨xr_blind, fun U hU hW => xr_mk hU hW hPc hK⟩ rfl rfl hl.1 rfl (lv_room (Nat.le_of_ble_eq_true rfl)) dX12_ask_3 ⟨Nat.le_of_ble_eq_true rfl, Nat.le_of_ble_eq_true rfl⟩).run (fun r_1 hr_1 => ?_)
  clear hPc
  rcases hr_1 with ⟨rfl, hr_1_0, hr_1_1⟩ | ⟨rfl, hr_1_0⟩ | ⟨rfl, hr_1_0, hr_1_1⟩
  · refine lv_if_ne (tgt := 11) hx hb dX12_ask_6 (by decide) (fun _ => ?_) (fun c_2 => absurd c_2 (by decide))
    refine lv_aload_n hx hb dX12_ask_11 rfl (lv_at hl 0 rfl) ?_
    refine lv_iload_n hx hb dX12_ask_12 rfl (lv_at hl 2 rfl) ?_
    have hPc := hP.sub (ws' := [(a0, .inr (12, MF ad 0 v3 0 (-1) v6 v7 v8 v9 vN 0 v36 v37 v38 v39 v40 v41 0 0 0 0 0)), ((ad 11), .inl (cI, 2, .inl fR))]) [0, 1] rfl
    refine va_csv (va_runV (As := [.int y]) (rest := []) ⟨hx, hb, hml, hown, hts⟩ (m_layWalks l D cI cB cL cZ a0 ad v3 v6 v7 v8 v9 v36 v37 v38 v39 v40 v41 vN fR y hf_fR_0) (cwV 1 hts gX12_ask_X12_layWalks rfl rfl rfl (by decide +kernel) ⟨Nat.le_of_ble_eq_true rfl, Nat.le_of_ble_eq_true rfl⟩) ⟨xr_blind, va_recv hK hPc (ci := 12) (q0 := 0) rfl rfl, fun U hU hW => xr_mk hU hW hPc hK⟩ rfl rfl hl.1 rfl (lv_room (Nat.le_of_ble_eq_true rfl)) dX12_ask_13 ⟨Nat.le_of_ble_eq_true rfl, Nat.le_of_ble_eq_true rfl⟩).run (fun _ => ?_)
    clear hPc
    refine lv_aload_n hx hb dX12_ask_16 rfl (lv_at hl 0 rfl) ?_
    have hPc := hP.sub (ws' := [(a0, .inr (12, MF ad 0 v3 0 (-1) v6 v7 v8 v9 vN 0 v36 v37 v38 v39 v40 v41 0 0 0 0 0)), ((ad 11), .inl (cI, 2, .inl fR))]) [0, 1] rfl
    refine vp_callSi (va_runV (As := []) (rest := []) ⟨hx, hb, hml, hown, hts⟩ (m_allWalks l D cI cB cL cZ a0 ad v3 v6 v7 v8 v9 v36 v37 v38 v39 v40 v41 vN fR hf_fR_0) (cwV 0 hts gX12_ask_X12_allWalks rfl rfl rfl (by decide +kernel) ⟨Nat.le_of_ble_eq_true rfl, Nat.le_of_ble_eq_true rfl⟩) ⟨xr_blind, va_recv hK hPc (ci := 12) (q0 := 0) rfl rfl, fun U hU hW => xr_mk hU hW hPc hK⟩ rfl rfl hl.1 rfl (lv_room (Nat.le_of_ble_eq_true rfl)) dX12_ask_17 ⟨Nat.le_of_ble_eq_true rfl, Nat.le_of_ble_eq_true rfl⟩).run (fun r_4 hr_4 => ?_)
    clear hPc
    subst hr_4
    refine lv_if_ne (tgt := 25) hx hb dX12_ask_20 (by decide) (fun c_5 => absurd (by decide) c_5) (fun _ => ?_)
    refine lv_iconst (v := (-1)) hx hb dX12_ask_23 (by decide) ?_
    exact W.iret (v := (-1)) hx hb hr (fun t ht hW => ⟨(-1), rfl, rfl, ht⟩) (fun q hq => by cases hq) dX12_ask_24
  · refine lv_if_ne (tgt := 11) hx hb dX12_ask_6 (by decide) (fun c_6 => absurd (by decide) c_6) (fun _ => ?_)
    refine lv_iconst (v := (-1)) hx hb dX12_ask_9 (by decide) ?_
    exact W.iret (v := (-1)) hx hb hr (fun t ht hW => ⟨(-1), rfl, rfl, ht⟩) (fun q hq => by cases hq) dX12_ask_10
  · refine lv_if_ne (tgt := 11) hx hb dX12_ask_6 (by decide) (fun c_7 => absurd (by decide) c_7) (fun _ => ?_)
    refine lv_iconst (v := (-1)) hx hb dX12_ask_9 (by decide) ?_
    exact W.iret (v := (-1)) hx hb hr (fun t ht hW => ⟨(-1), rfl, rfl, ht⟩) (fun q hq => by cases hq) dX12_ask_10
set_option maxHeartbeats 4000000 in
set_option maxRecDepth 100000 in
theorem m_back (l : Launch) (D : va_G) (cI : ClassId) (cB : ClassId) (cL : ClassId) (cZ : ClassId) (a0 : Nat) (ad : Nat → Nat) (v3 : Int32) (v6 : Int32) (v7 : Int32) (v8 : Int32) (v9 : Int32) (v36 : Int32) (v37 : Int32) (v38 : Int32) (v39 : Int32) (v40 : Int32) (v41 : Int32) (vN : Int64) (fB : Nat → Int32) (x : Int32) (hf_fB_0 : fB 0 = 0) (hf_fB_1 : fB 1 = 0) (hf_fB_2 : fB 2 = 0) : Met l yX12_back wsX12_back ({ frames := 1, cells := 0, slots := 0, locals := 22 }) (xr D [(cI, .int), (cB, .byte), (cL, .long), (cZ, .boolean)] [(a0, .inr (12, MF ad 0 v3 0 (-1) v6 v7 v8 v9 vN 0 v36 v37 v38 v39 v40 v41 0 0 0 0 0)), ((ad 70), .inl (cZ, 3, .inl fB))] [.ref a0, .int x]) (vp_Si (fun r => r = (-1))) 0 0 (fun _ => False) := by
  refine Met.ofW (cc := cX12_back) (maxL := 3) (ret := (some .int)) (by decide) rfl ?_
  intro p e s m args below meth c s₁ B hml hv
  obtain ⟨rfl, hP, hK⟩ := hv
  have hx := B.exec
  have hb := B.bytes
  have hr := B.returns
  have hts := atoms_spec (ws := wsX12_back) B.pre
  have hown : s.vm.findClass RX12 = some m.cls := findClass_of_methodNamed B.named
  have hlocks := B.notSynchronized
  have hl := lv_entry ([.ref a0, .int x]) (n := 3) (Nat.le_of_ble_eq_true rfl)
  rw [lg_entry_eq]
  generalize (lg_sl ([.ref a0, .int x]) ++ List.replicate (3 - (lg_sl ([.ref a0, .int x])).length) Slot.unset).toArray = ls at hl ⊢
  replace hl : lv_has ls 3 [(0, .ref a0), (1, .int x)] := hl
  refine lv_iload_n hx hb dX12_back_0 rfl (lv_at hl 1 rfl) ?_
  refine lv_iconst (v := 0) hx hb dX12_back_1 (by decide) ?_
  refine lv_iconst (v := 2) hx hb dX12_back_2 (by decide) ?_
  have hPc := hP.sub (ws' := []) [] rfl
  refine vp_callSi (va_runS (As := [.int x, .int 0, .int 2]) (rest := []) ⟨hx, hb, hml, hown, hts⟩ (m_isIn l D cI cB cL cZ x 0 2) (va_cwS 3 hts gX12_back_X12_isIn rfl rfl rfl (by decide +kernel) ⟨Nat.le_of_ble_eq_true rfl, Nat.le_of_ble_eq_true rfl⟩) ⟨xr_blind, fun U hU hW => xr_mk hU hW hPc hK⟩ rfl rfl hl.1 rfl (lv_room (Nat.le_of_ble_eq_true rfl)) dX12_back_3 ⟨Nat.le_of_ble_eq_true rfl, Nat.le_of_ble_eq_true rfl⟩).run (fun r_1 hr_1 => ?_)
  clear hPc
  rcases hr_1 with ⟨rfl, hr_1_0, hr_1_1⟩ | ⟨rfl, hr_1_0⟩ | ⟨rfl, hr_1_0, hr_1_1⟩
  · refine lv_if_eq (tgt := 18) hx hb dX12_back_6 (by decide) (fun c_2 => absurd c_2 (by decide)) (fun _ => ?_)
    refine lv_aload_n hx hb dX12_back_9 rfl (lv_at hl 0 rfl) ?_
    refine va_get (D := D) (ci := 12) (v := .ref (ad 70)) (C := RX12) (T := TX12) (N := 71) hx hb hts iw_X12_back_X12 hown hK hP 0 rfl rfl 70 (by decide) (hts (.fieldLink RX12 164 "SoldHouseModel" "isBoxed" "[Z") (List.mem_of_getElem? (i := 1) rfl)) (fun _ h9 => h9) rfl dX12_back_10 ?_
    refine lv_iload_n hx hb dX12_back_13 rfl (lv_at hl 1 rfl) ?_
    obtain ⟨j_3, hj_3, rfl⟩ := nI_of2 (M := 2) (n := 2) rfl hr_1_0 (Int32.not_lt.mp hr_1_1)
    rcases (show j_3 = 0 ∨ j_3 = 1 ∨ j_3 = 2 by omega) with rfl | rfl | rfl
    · refine va_zald hx hb hK hP 1 3 rfl rfl (show vp_in (nI 0) 3 from (by decide : ¬ ((nI 0) < (0 : Int32) ∨ 3 ≤ Int32.toNatClampNeg (nI 0)))) dX12_back_14 ?_
      refine lv_topi (fun y_4 ey_4 => ?_)
      obtain rfl : y_4 = 0 := ey_4.trans hf_fB_0
      refine lv_if_ne (tgt := 20) hx hb dX12_back_15 (by decide) (fun c_5 => absurd (by decide) c_5) (fun _ => ?_)
      refine lv_iconst (v := (-1)) hx hb dX12_back_18 (by decide) ?_
      exact W.iret (v := (-1)) hx hb hr (fun t ht hW => ⟨(-1), rfl, rfl, ht⟩) (fun q hq => by cases hq) dX12_back_19
    · refine va_zald hx hb hK hP 1 3 rfl rfl (show vp_in (nI 1) 3 from (by decide : ¬ ((nI 1) < (0 : Int32) ∨ 3 ≤ Int32.toNatClampNeg (nI 1)))) dX12_back_14 ?_
      refine lv_topi (fun y_6 ey_6 => ?_)
      obtain rfl : y_6 = 0 := ey_6.trans hf_fB_1
      refine lv_if_ne (tgt := 20) hx hb dX12_back_15 (by decide) (fun c_7 => absurd (by decide) c_7) (fun _ => ?_)
      refine lv_iconst (v := (-1)) hx hb dX12_back_18 (by decide) ?_
      exact W.iret (v := (-1)) hx hb hr (fun t ht hW => ⟨(-1), rfl, rfl, ht⟩) (fun q hq => by cases hq) dX12_back_19
    · refine va_zald hx hb hK hP 1 3 rfl rfl (show vp_in (nI 2) 3 from (by decide : ¬ ((nI 2) < (0 : Int32) ∨ 3 ≤ Int32.toNatClampNeg (nI 2)))) dX12_back_14 ?_
      refine lv_topi (fun y_8 ey_8 => ?_)
      obtain rfl : y_8 = 0 := ey_8.trans hf_fB_2
      refine lv_if_ne (tgt := 20) hx hb dX12_back_15 (by decide) (fun c_9 => absurd (by decide) c_9) (fun _ => ?_)
      refine lv_iconst (v := (-1)) hx hb dX12_back_18 (by decide) ?_
      exact W.iret (v := (-1)) hx hb hr (fun t ht hW => ⟨(-1), rfl, rfl, ht⟩) (fun q hq => by cases hq) dX12_back_19
  · refine lv_if_eq (tgt := 18) hx hb dX12_back_6 (by decide) (fun _ => ?_) (fun c_10 => absurd (by decide) c_10)
    refine lv_iconst (v := (-1)) hx hb dX12_back_18 (by decide) ?_
    exact W.iret (v := (-1)) hx hb hr (fun t ht hW => ⟨(-1), rfl, rfl, ht⟩) (fun q hq => by cases hq) dX12_back_19
  · refine lv_if_eq (tgt := 18) hx hb dX12_back_6 (by decide) (fun _ => ?_) (fun c_11 => absurd (by decide) c_11)
    refine lv_iconst (v := (-1)) hx hb dX12_back_18 (by decide) ?_
    exact W.iret (v := (-1)) hx hb hr (fun t ht hW => ⟨(-1), rfl, rfl, ht⟩) (fun q hq => by cases hq) dX12_back_19
set_option maxHeartbeats 4000000 in
set_option maxRecDepth 100000 in
theorem m_about (l : Launch) (D : va_G) (cI : ClassId) (cB : ClassId) (cL : ClassId) (cZ : ClassId) (a0 : Nat) (ad : Nat → Nat) (v3 : Int32) (v6 : Int32) (v7 : Int32) (v8 : Int32) (v9 : Int32) (v36 : Int32) (v37 : Int32) (v38 : Int32) (v39 : Int32) (v40 : Int32) (v41 : Int32) (vN : Int64) (fR : Nat → Int32) (fD : Nat → Int32) (fT : Nat → Int32) (fA : Nat → Int32) (fU : Nat → Int32) (x : Int32) (hf_fR_0 : fR 0 = 0) (hf_fD_0 : fD 0 = 0) (hf_fT_0 : fT 0 = 0) (hf_fA_30 : fA 30 = 0) (hf_fA_31 : fA 31 = 0) (hf_fU_0 : fU 0 = 0) : Met l yX12_about wsX12_about ({ frames := 1, cells := 0, slots := 0, locals := 20 }) (xr D [(cI, .int), (cB, .byte), (cL, .long), (cZ, .boolean)] [(a0, .inr (12, MF ad 0 v3 0 (-1) v6 v7 v8 v9 vN 0 v36 v37 v38 v39 v40 v41 0 0 0 0 0)), ((ad 11), .inl (cI, 2, .inl fR)), ((ad 12), .inl (cI, 2, .inl fD)), ((ad 13), .inl (cI, 2, .inl fT)), ((ad 42), .inl (cI, 32, .inl fA)), ((ad 14), .inl (cI, 2, .inl fU))] [.ref a0, .int x]) (vp_Si (fun r => r = sp_rng 11 x)) 0 0 (fun _ => False) := by
  refine Met.ofW (cc := cX12_about) (maxL := 2) (ret := (some .int)) (by decide) rfl ?_
  intro p e s m args below meth c s₁ B hml hv
  obtain ⟨rfl, hP, hK⟩ := hv
  have hx := B.exec
  have hb := B.bytes
  have hr := B.returns
  have hts := atoms_spec (ws := wsX12_about) B.pre
  have hown : s.vm.findClass RX12 = some m.cls := findClass_of_methodNamed B.named
  have hlocks := B.notSynchronized
  have hl := lv_entry ([.ref a0, .int x]) (n := 2) (Nat.le_of_ble_eq_true rfl)
  rw [lg_entry_eq]
  generalize (lg_sl ([.ref a0, .int x]) ++ List.replicate (2 - (lg_sl ([.ref a0, .int x])).length) Slot.unset).toArray = ls at hl ⊢
  replace hl : lv_has ls 2 [(0, .ref a0), (1, .int x)] := hl
  refine lv_iload_n hx hb dX12_about_0 rfl (lv_at hl 1 rfl) ?_
  by_cases c_1 : x < 0
  · refine lv_tableOut (tgt := 140) hx hb dX12_about_1 (Or.inl (Int32.lt_iff_toInt_lt.mp c_1)) (by decide) ?_
    refine lv_iconst (v := (-1)) hx hb dX12_about_140 (by decide) ?_
    exact W.iret (v := (-1)) hx hb hr (fun t ht hW => ⟨(-1), rfl, (sp_rng_lt c_1).symm, ht⟩) (fun q hq => by cases hq) dX12_about_141
  by_cases c_2 : 11 < x
  · refine lv_tableOut (tgt := 140) hx hb dX12_about_1 (Or.inr (Int32.lt_iff_toInt_lt.mp c_2)) (by decide) ?_
    refine lv_iconst (v := (-1)) hx hb dX12_about_140 (by decide) ?_
    exact W.iret (v := (-1)) hx hb hr (fun t ht hW => ⟨(-1), rfl, (sp_rng_gt c_1 c_2).symm, ht⟩) (fun q hq => by cases hq) dX12_about_141
  obtain ⟨j_3, hj_3, rfl⟩ := nI_of2 (M := 11) (n := 11) rfl c_1 (Int32.not_lt.mp c_2)
  rcases (show j_3 = 0 ∨ j_3 = 1 ∨ j_3 = 2 ∨ j_3 = 3 ∨ j_3 = 4 ∨ j_3 = 5 ∨ j_3 = 6 ∨ j_3 = 7 ∨ j_3 = 8 ∨ j_3 = 9 ∨ j_3 = 10 ∨ j_3 = 11 by omega) with rfl | rfl | rfl | rfl | rfl | rfl | rfl | rfl | rfl | rfl | rfl | rfl
  · refine lv_tableIn (off := 63) (tgt := 64) hx hb dX12_about_1 (by decide) (by decide) (by decide) (by decide) ?_
    refine lv_aload_n hx hb dX12_about_64 rfl (lv_at hl 0 rfl) ?_
    have hPc := hP.sub (ws' := [(a0, .inr (12, MF ad 0 v3 0 (-1) v6 v7 v8 v9 vN 0 v36 v37 v38 v39 v40 v41 0 0 0 0 0)), ((ad 11), .inl (cI, 2, .inl fR))]) [0, 1] rfl
    refine vp_callSi (va_runV (As := []) (rest := []) ⟨hx, hb, hml, hown, hts⟩ (m_places l D cI cB cL cZ a0 ad v3 v6 v7 v8 v9 v36 v37 v38 v39 v40 v41 vN fR hf_fR_0) (cwV 0 hts gX12_about_X12_places rfl rfl rfl (by decide +kernel) ⟨Nat.le_of_ble_eq_true rfl, Nat.le_of_ble_eq_true rfl⟩) ⟨xr_blind, va_recv hK hPc (ci := 12) (q0 := 0) rfl rfl, fun U hU hW => xr_mk hU hW hPc hK⟩ rfl rfl hl.1 rfl (lv_room (Nat.le_of_ble_eq_true rfl)) dX12_about_65 ⟨Nat.le_of_ble_eq_true rfl, Nat.le_of_ble_eq_true rfl⟩).run (fun r_4 hr_4 => ?_)
    clear hPc
    subst hr_4
    exact W.iret (v := 0) hx hb hr (fun t ht hW => ⟨0, rfl, (by decide), ht⟩) (fun q hq => by cases hq) dX12_about_68
  · refine lv_tableIn (off := 68) (tgt := 69) hx hb dX12_about_1 (by decide) (by decide) (by decide) (by decide) ?_
    refine lv_aload_n hx hb dX12_about_69 rfl (lv_at hl 0 rfl) ?_
    refine va_get (D := D) (ci := 12) (v := .ref (ad 12)) (C := RX12) (T := TX12) (N := 71) hx hb hts iw_X12_about_X12 hown hK hP 0 rfl rfl 12 (by decide) (hts (.fieldLink RX12 24 "SoldHouseModel" "doors" "[I") (List.mem_of_getElem? (i := 1) rfl)) (fun _ h9 => h9) rfl dX12_about_70 ?_
    refine lv_aload_n hx hb dX12_about_73 rfl (lv_at hl 0 rfl) ?_
    refine va_get (D := D) (ci := 12) (v := .int 0) (C := RX12) (T := TX12) (N := 71) hx hb hts iw_X12_about_X12 hown hK hP 0 rfl rfl 35 (by decide) (hts (.fieldLink RX12 280 "SoldHouseModel" "bank" "I") (List.mem_of_getElem? (i := 2) rfl)) (fun _ h9 => h9) rfl dX12_about_74 ?_
    refine va_iald hx hb hK hP 2 0 rfl rfl (show vp_in 0 2 from (by decide : ¬ ((0 : Int32) < 0 ∨ 2 ≤ Int32.toNatClampNeg 0))) dX12_about_77 ?_
    refine lv_topi (fun y_5 ey_5 => ?_)
    obtain rfl : y_5 = 0 := ey_5.trans hf_fD_0
    exact W.iret (v := 0) hx hb hr (fun t ht hW => ⟨0, rfl, (by decide), ht⟩) (fun q hq => by cases hq) dX12_about_78
  · refine lv_tableIn (off := 78) (tgt := 79) hx hb dX12_about_1 (by decide) (by decide) (by decide) (by decide) ?_
    refine lv_aload_n hx hb dX12_about_79 rfl (lv_at hl 0 rfl) ?_
    have hPc := hP.sub (ws' := [(a0, .inr (12, MF ad 0 v3 0 (-1) v6 v7 v8 v9 vN 0 v36 v37 v38 v39 v40 v41 0 0 0 0 0)), ((ad 13), .inl (cI, 2, .inl fT))]) [0, 3] rfl
    refine vp_callSi (va_runV (As := []) (rest := []) ⟨hx, hb, hml, hown, hts⟩ (m_many l D cI cB cL cZ a0 ad v3 v6 v7 v8 v9 v36 v37 v38 v39 v40 v41 vN fT hf_fT_0) (cwV 0 hts gX12_about_X12_many rfl rfl rfl (by decide +kernel) ⟨Nat.le_of_ble_eq_true rfl, Nat.le_of_ble_eq_true rfl⟩) ⟨xr_blind, va_recv hK hPc (ci := 12) (q0 := 0) rfl rfl, fun U hU hW => xr_mk hU hW hPc hK⟩ rfl rfl hl.1 rfl (lv_room (Nat.le_of_ble_eq_true rfl)) dX12_about_80 ⟨Nat.le_of_ble_eq_true rfl, Nat.le_of_ble_eq_true rfl⟩).run (fun r_6 hr_6 => ?_)
    clear hPc
    subst hr_6
    exact W.iret (v := 0) hx hb hr (fun t ht hW => ⟨0, rfl, (by decide), ht⟩) (fun q hq => by cases hq) dX12_about_83
  · refine lv_tableIn (off := 83) (tgt := 84) hx hb dX12_about_1 (by decide) (by decide) (by decide) (by decide) ?_
    refine lv_aload_n hx hb dX12_about_84 rfl (lv_at hl 0 rfl) ?_
    refine va_get (D := D) (ci := 12) (v := .ref (ad 42)) (C := RX12) (T := TX12) (N := 71) hx hb hts iw_X12_about_X12 hown hK hP 0 rfl rfl 42 (by decide) (hts (.fieldLink RX12 95 "SoldHouseModel" "all" "[I") (List.mem_of_getElem? (i := 3) rfl)) (fun _ h9 => h9) rfl dX12_about_85 ?_
    refine lv_bipush (v := 30) hx hb dX12_about_88 (by decide) ?_
    refine va_iald hx hb hK hP 4 0 rfl rfl (show vp_in 30 32 from (by decide : ¬ ((30 : Int32) < 0 ∨ 32 ≤ Int32.toNatClampNeg 30))) dX12_about_90 ?_
    refine lv_topi (fun y_7 ey_7 => ?_)
    obtain rfl : y_7 = 0 := ey_7.trans hf_fA_30
    exact W.iret (v := 0) hx hb hr (fun t ht hW => ⟨0, rfl, (by decide), ht⟩) (fun q hq => by cases hq) dX12_about_91
  · refine lv_tableIn (off := 91) (tgt := 92) hx hb dX12_about_1 (by decide) (by decide) (by decide) (by decide) ?_
    refine lv_aload_n hx hb dX12_about_92 rfl (lv_at hl 0 rfl) ?_
    refine va_get (D := D) (ci := 12) (v := .ref (ad 42)) (C := RX12) (T := TX12) (N := 71) hx hb hts iw_X12_about_X12 hown hK hP 0 rfl rfl 42 (by decide) (hts (.fieldLink RX12 95 "SoldHouseModel" "all" "[I") (List.mem_of_getElem? (i := 3) rfl)) (fun _ h9 => h9) rfl dX12_about_93 ?_
    refine lv_bipush (v := 31) hx hb dX12_about_96 (by decide) ?_
    refine va_iald hx hb hK hP 4 0 rfl rfl (show vp_in 31 32 from (by decide : ¬ ((31 : Int32) < 0 ∨ 32 ≤ Int32.toNatClampNeg 31))) dX12_about_98 ?_
    refine lv_topi (fun y_8 ey_8 => ?_)
    obtain rfl : y_8 = 0 := ey_8.trans hf_fA_31
    exact W.iret (v := 0) hx hb hr (fun t ht hW => ⟨0, rfl, (by decide), ht⟩) (fun q hq => by cases hq) dX12_about_99
  · refine lv_tableIn (off := 99) (tgt := 100) hx hb dX12_about_1 (by decide) (by decide) (by decide) (by decide) ?_
    refine lv_aload_n hx hb dX12_about_100 rfl (lv_at hl 0 rfl) ?_
    refine va_get (D := D) (ci := 12) (v := .int 0) (C := RX12) (T := TX12) (N := 71) hx hb hts iw_X12_about_X12 hown hK hP 0 rfl rfl 46 (by decide) (hts (.fieldLink RX12 409 "SoldHouseModel" "acts" "I") (List.mem_of_getElem? (i := 4) rfl)) (fun _ h9 => h9) rfl dX12_about_101 ?_
    exact W.iret (v := 0) hx hb hr (fun t ht hW => ⟨0, rfl, (by decide), ht⟩) (fun q hq => by cases hq) dX12_about_104
  · refine lv_tableIn (off := 104) (tgt := 105) hx hb dX12_about_1 (by decide) (by decide) (by decide) (by decide) ?_
    refine lv_aload_n hx hb dX12_about_105 rfl (lv_at hl 0 rfl) ?_
    refine va_get (D := D) (ci := 12) (v := .int 0) (C := RX12) (T := TX12) (N := 71) hx hb hts iw_X12_about_X12 hown hK hP 0 rfl rfl 47 (by decide) (hts (.fieldLink RX12 412 "SoldHouseModel" "undone" "I") (List.mem_of_getElem? (i := 5) rfl)) (fun _ h9 => h9) rfl dX12_about_106 ?_
    exact W.iret (v := 0) hx hb hr (fun t ht hW => ⟨0, rfl, (by decide), ht⟩) (fun q hq => by cases hq) dX12_about_109
  · refine lv_tableIn (off := 109) (tgt := 110) hx hb dX12_about_1 (by decide) (by decide) (by decide) (by decide) ?_
    refine lv_aload_n hx hb dX12_about_110 rfl (lv_at hl 0 rfl) ?_
    refine va_get (D := D) (ci := 12) (v := .int 0) (C := RX12) (T := TX12) (N := 71) hx hb hts iw_X12_about_X12 hown hK hP 0 rfl rfl 67 (by decide) (hts (.fieldLink RX12 415 "SoldHouseModel" "heards" "I") (List.mem_of_getElem? (i := 6) rfl)) (fun _ h9 => h9) rfl dX12_about_111 ?_
    exact W.iret (v := 0) hx hb hr (fun t ht hW => ⟨0, rfl, (by decide), ht⟩) (fun q hq => by cases hq) dX12_about_114
  · refine lv_tableIn (off := 114) (tgt := 115) hx hb dX12_about_1 (by decide) (by decide) (by decide) (by decide) ?_
    refine lv_aload_n hx hb dX12_about_115 rfl (lv_at hl 0 rfl) ?_
    refine va_get (D := D) (ci := 12) (v := .int 0) (C := RX12) (T := TX12) (N := 71) hx hb hts iw_X12_about_X12 hown hK hP 0 rfl rfl 68 (by decide) (hts (.fieldLink RX12 505 "SoldHouseModel" "time" "I") (List.mem_of_getElem? (i := 7) rfl)) (fun _ h9 => h9) rfl dX12_about_116 ?_
    exact W.iret (v := 0) hx hb hr (fun t ht hW => ⟨0, rfl, (by decide), ht⟩) (fun q hq => by cases hq) dX12_about_119
  · refine lv_tableIn (off := 119) (tgt := 120) hx hb dX12_about_1 (by decide) (by decide) (by decide) (by decide) ?_
    refine lv_aload_n hx hb dX12_about_120 rfl (lv_at hl 0 rfl) ?_
    refine va_get (D := D) (ci := 12) (v := .int 0) (C := RX12) (T := TX12) (N := 71) hx hb hts iw_X12_about_X12 hown hK hP 0 rfl rfl 2 (by decide) (hts (.fieldLink RX12 277 "SoldHouseModel" "taped" "I") (List.mem_of_getElem? (i := 8) rfl)) (fun _ h9 => h9) rfl dX12_about_121 ?_
    exact W.iret (v := 0) hx hb hr (fun t ht hW => ⟨0, rfl, (by decide), ht⟩) (fun q hq => by cases hq) dX12_about_124
  · refine lv_tableIn (off := 124) (tgt := 125) hx hb dX12_about_1 (by decide) (by decide) (by decide) (by decide) ?_
    refine lv_aload_n hx hb dX12_about_125 rfl (lv_at hl 0 rfl) ?_
    refine va_get (D := D) (ci := 12) (v := .ref (ad 14)) (C := RX12) (T := TX12) (N := 71) hx hb hts iw_X12_about_X12 hown hK hP 0 rfl rfl 14 (by decide) (hts (.fieldLink RX12 30 "SoldHouseModel" "units" "[I") (List.mem_of_getElem? (i := 9) rfl)) (fun _ h9 => h9) rfl dX12_about_126 ?_
    refine lv_aload_n hx hb dX12_about_129 rfl (lv_at hl 0 rfl) ?_
    refine va_get (D := D) (ci := 12) (v := .int 0) (C := RX12) (T := TX12) (N := 71) hx hb hts iw_X12_about_X12 hown hK hP 0 rfl rfl 35 (by decide) (hts (.fieldLink RX12 280 "SoldHouseModel" "bank" "I") (List.mem_of_getElem? (i := 2) rfl)) (fun _ h9 => h9) rfl dX12_about_130 ?_
    refine va_iald hx hb hK hP 5 0 rfl rfl (show vp_in 0 2 from (by decide : ¬ ((0 : Int32) < 0 ∨ 2 ≤ Int32.toNatClampNeg 0))) dX12_about_133 ?_
    refine lv_topi (fun y_9 ey_9 => ?_)
    obtain rfl : y_9 = 0 := ey_9.trans hf_fU_0
    exact W.iret (v := 0) hx hb hr (fun t ht hW => ⟨0, rfl, (by decide), ht⟩) (fun q hq => by cases hq) dX12_about_134
  · refine lv_tableIn (off := 134) (tgt := 135) hx hb dX12_about_1 (by decide) (by decide) (by decide) (by decide) ?_
    refine lv_aload_n hx hb dX12_about_135 rfl (lv_at hl 0 rfl) ?_
    refine va_get (D := D) (ci := 12) (v := .int 0) (C := RX12) (T := TX12) (N := 71) hx hb hts iw_X12_about_X12 hown hK hP 0 rfl rfl 51 (by decide) (hts (.fieldLink RX12 418 "SoldHouseModel" "laid" "I") (List.mem_of_getElem? (i := 10) rfl)) (fun _ h9 => h9) rfl dX12_about_136 ?_
    exact W.iret (v := 0) hx hb hr (fun t ht hW => ⟨0, rfl, (by decide), ht⟩) (fun q hq => by cases hq) dX12_about_139
