set_option maxHeartbeats 4000000 in
set_option maxRecDepth 100000 in
theorem c_mostPairs (l : Launch) (D : va_G) (cI : ClassId) (cB : ClassId) (cL : ClassId) (cZ : ClassId) (a0 : Nat) (aM : Nat) (aF : Nat) (aP : Nat) (mo : Nat) (ma : Nat) (mk : Nat) (mb : Nat) (mf : Nat) (fx : Nat) (fr : Nat) (fe : Nat) (pz : Nat → Nat) (su : Nat) : Met l yX10_mostPairs wsX10_mostPairs ({ frames := 0, cells := 0, slots := 0, locals := 0 }) (xr D [(cI, .int), (cB, .byte), (cL, .long), (cZ, .boolean)] [(a0, .inr (10, [.ref aM])), (aM, .inr (3, [.ref aF, .ref mo, .ref ma, .ref mk, .int 0, .int 0, .int 0, .ref mb, .ref mf])), (aF, .inr (0, [.ref aP, .ref fx, .ref fr, .ref fe, .int 0])), (aP, .inr (5, PF pz su))] [.ref a0, .int 0, .int 0]) (vp_Si (fun r => r = 0)) 0 0 (fun _ => False) := by
  refine Met.ofW (cc := cX10_mostPairs) (maxL := 6) (ret := (some .int)) (by decide) rfl ?_
  intro p e s m args below meth c s₁ B hml hv
  obtain ⟨rfl, hP, hK⟩ := hv
  have hx := B.exec
  have hb := B.bytes
  have hr := B.returns
  have hts := atoms_spec (ws := wsX10_mostPairs) B.pre
  have hown : s.vm.findClass RX10 = some m.cls := findClass_of_methodNamed B.named
  have hlocks := B.notSynchronized
  have hl := lv_entry ([.ref a0, .int 0, .int 0]) (n := 6) (Nat.le_of_ble_eq_true rfl)
  rw [lg_entry_eq]
  generalize (lg_sl ([.ref a0, .int 0, .int 0]) ++ List.replicate (6 - (lg_sl ([.ref a0, .int 0, .int 0])).length) Slot.unset).toArray = ls at hl ⊢
  replace hl : lv_has ls 6 [(0, .ref a0), (1, .int 0), (2, .int 0)] := hl
  refine lv_aload_n hx hb dX10_mostPairs_0 rfl (lv_at hl 0 rfl) ?_
  refine va_get (D := D) (ci := 10) (v := .ref aM) (C := RX10) (T := TX10) (N := 1) hx hb hts iw_X10_mostPairs_X10 hown hK hP 0 rfl rfl 0 (by decide) (hts (.fieldLink RX10 9 "SoldHouse$Trader" "memory" "LSoldHouse$Memory;") (List.mem_of_getElem? (i := 1) rfl)) (fun _ h9 => h9) rfl dX10_mostPairs_1 ?_
  refine va_get (D := D) (ci := 3) (v := .ref aF) (C := RX3) (T := TX3) (N := 9) hx hb hts iw_X10_mostPairs_X3 hown hK hP 1 rfl rfl 0 (by decide) (hts (.fieldLink RX10 15 "SoldHouse$Memory" "floor" "LSoldHouse$Floor;") (List.mem_of_getElem? (i := 2) rfl)) (fun _ h9 => h9) rfl dX10_mostPairs_4 ?_
  refine va_get (D := D) (ci := 0) (v := .ref aP) (C := RX0) (T := TX0) (N := 5) hx hb hts iw_X10_mostPairs_X0 hown hK hP 2 rfl rfl 0 (by decide) (hts (.fieldLink RX10 21 "SoldHouse$Floor" "plan" "LSoldHouse$Plan;") (List.mem_of_getElem? (i := 3) rfl)) (fun _ h9 => h9) rfl dX10_mostPairs_7 ?_
  refine va_get (D := D) (ci := 5) (v := .int 0) (C := RX5) (T := TX5) (N := 16) hx hb hts iw_X10_mostPairs_X5 hown hK hP 3 rfl rfl 6 (by decide) (hts (.fieldLink RX10 27 "SoldHouse$Plan" "things" "I") (List.mem_of_getElem? (i := 4) rfl)) (fun _ h9 => h9) rfl dX10_mostPairs_10 ?_
  refine lv_istore_n (lv' := [(3, .int 0), (0, .ref a0), (1, .int 0), (2, .int 0)]) hx hb dX10_mostPairs_13 rfl hl (by decide) rfl (fun ls hl => ?_)
  refine lv_iload_n hx hb dX10_mostPairs_14 rfl (lv_at hl 2 rfl) ?_
  refine lv_iload_n hx hb dX10_mostPairs_15 rfl (lv_at hl 0 rfl) ?_
  refine lv_icmp_lt (tgt := 21) hx hb dX10_mostPairs_16 (by decide) (fun c_1 => absurd c_1 (by decide)) (fun _ => ?_)
  refine lv_iconst (v := 0) hx hb dX10_mostPairs_19 (by decide) ?_
  exact W.iret (v := 0) hx hb hr (fun t ht hW => ⟨0, rfl, rfl, ht⟩) (fun q hq => by cases hq) dX10_mostPairs_20
set_option maxHeartbeats 4000000 in
set_option maxRecDepth 100000 in
theorem c_mostTrades (l : Launch) (D : va_G) (cI : ClassId) (cB : ClassId) (cL : ClassId) (cZ : ClassId) (a0 : Nat) (aM : Nat) (aF : Nat) (aP : Nat) (mo : Nat) (ma : Nat) (mk : Nat) (mb : Nat) (mf : Nat) (fx : Nat) (fr : Nat) (fe : Nat) (pz : Nat → Nat) (su : Nat) : Met l yX10_mostTrades wsX10_mostTrades ({ frames := 1, cells := 0, slots := 0, locals := 25 }) (xr D [(cI, .int), (cB, .byte), (cL, .long), (cZ, .boolean)] [(a0, .inr (10, [.ref aM])), (aM, .inr (3, [.ref aF, .ref mo, .ref ma, .ref mk, .int 0, .int 0, .int 0, .ref mb, .ref mf])), (aF, .inr (0, [.ref aP, .ref fx, .ref fr, .ref fe, .int 0])), (aP, .inr (5, PF pz su))] [.ref a0]) (vp_Si (fun r => r = 0)) 0 0 (fun _ => False) := by
  refine Met.ofW (cc := cX10_mostTrades) (maxL := 1) (ret := (some .int)) (by decide) rfl ?_
  intro p e s m args below meth c s₁ B hml hv
  obtain ⟨rfl, hP, hK⟩ := hv
  have hx := B.exec
  have hb := B.bytes
  have hr := B.returns
  have hts := atoms_spec (ws := wsX10_mostTrades) B.pre
  have hown : s.vm.findClass RX10 = some m.cls := findClass_of_methodNamed B.named
  have hlocks := B.notSynchronized
  have hl := lv_entry ([.ref a0]) (n := 1) (Nat.le_of_ble_eq_true rfl)
  rw [lg_entry_eq]
  generalize (lg_sl ([.ref a0]) ++ List.replicate (1 - (lg_sl ([.ref a0])).length) Slot.unset).toArray = ls at hl ⊢
  replace hl : lv_has ls 1 [(0, .ref a0)] := hl
  refine lv_aload_n hx hb dX10_mostTrades_0 rfl (lv_at hl 0 rfl) ?_
  refine lv_iconst (v := 0) hx hb dX10_mostTrades_1 (by decide) ?_
  refine lv_iconst (v := 0) hx hb dX10_mostTrades_2 (by decide) ?_
  have hPc := hP.sub (ws' := [(a0, .inr (10, [.ref aM])), (aM, .inr (3, [.ref aF, .ref mo, .ref ma, .ref mk, .int 0, .int 0, .int 0, .ref mb, .ref mf])), (aF, .inr (0, [.ref aP, .ref fx, .ref fr, .ref fe, .int 0])), (aP, .inr (5, PF pz su))]) [0, 1, 2, 3] rfl
  refine vp_callSi (va_runV (As := [.int 0, .int 0]) (rest := []) ⟨hx, hb, hml, hown, hts⟩ (c_mostPairs l D cI cB cL cZ a0 aM aF aP mo ma mk mb mf fx fr fe pz su) (cwV 2 hts gX10_mostTrades_X10_mostPairs rfl rfl rfl (by decide +kernel) ⟨Nat.le_of_ble_eq_true rfl, Nat.le_of_ble_eq_true rfl⟩) ⟨xr_blind, va_recv hK hPc (ci := 10) (q0 := 0) rfl rfl, fun U hU hW => xr_mk hU hW hPc hK⟩ rfl rfl hl.1 rfl (lv_room (Nat.le_of_ble_eq_true rfl)) dX10_mostTrades_3 ⟨Nat.le_of_ble_eq_true rfl, Nat.le_of_ble_eq_true rfl⟩).run (fun r_1 hr_1 => ?_)
  clear hPc
  subst hr_1
  exact W.iret (v := 0) hx hb hr (fun t ht hW => ⟨0, rfl, rfl, ht⟩) (fun q hq => by cases hq) dX10_mostTrades_6
set_option maxHeartbeats 4000000 in
set_option maxRecDepth 100000 in
theorem c_trades (l : Launch) (D : va_G) (cI : ClassId) (cB : ClassId) (cL : ClassId) (cZ : ClassId) (a0 : Nat) (aP : Nat) (aD : Nat) (aT : Nat) (aR : Nat) (aF : Nat) (aU : Nat) (aH : Nat) (aM : Nat) (aW : Nat) (aN : Nat) (mo : Nat) (ma : Nat) (mk : Nat) (mb : Nat) (mf : Nat) (fx : Nat) (fr : Nat) (fe : Nat) (pz : Nat → Nat) (su : Nat) : Met l yX11_trades wsX11_trades ({ frames := 2, cells := 0, slots := 0, locals := 45 }) (xr D [(cI, .int), (cB, .byte), (cL, .long), (cZ, .boolean)] [(a0, .inr (11, [.ref aP, .ref aD, .ref aT, .ref aR, .ref aF, .ref aU, .ref aH, .ref aM, .ref aW, .ref aN])), (aW, .inr (10, [.ref aM])), (aM, .inr (3, [.ref aF, .ref mo, .ref ma, .ref mk, .int 0, .int 0, .int 0, .ref mb, .ref mf])), (aF, .inr (0, [.ref aP, .ref fx, .ref fr, .ref fe, .int 0])), (aP, .inr (5, PF pz su))] [.ref a0]) (vp_Si (fun r => r = 0)) 0 0 (fun _ => False) := by
  refine Met.ofW (cc := cX11_trades) (maxL := 1) (ret := (some .int)) (by decide) rfl ?_
  intro p e s m args below meth c s₁ B hml hv
  obtain ⟨rfl, hP, hK⟩ := hv
  have hx := B.exec
  have hb := B.bytes
  have hr := B.returns
  have hts := atoms_spec (ws := wsX11_trades) B.pre
  have hown : s.vm.findClass RX11 = some m.cls := findClass_of_methodNamed B.named
  have hlocks := B.notSynchronized
  have hl := lv_entry ([.ref a0]) (n := 1) (Nat.le_of_ble_eq_true rfl)
  rw [lg_entry_eq]
  generalize (lg_sl ([.ref a0]) ++ List.replicate (1 - (lg_sl ([.ref a0])).length) Slot.unset).toArray = ls at hl ⊢
  replace hl : lv_has ls 1 [(0, .ref a0)] := hl
  refine lv_aload_n hx hb dX11_trades_0 rfl (lv_at hl 0 rfl) ?_
  refine va_get (D := D) (ci := 11) (v := .ref aW) (C := RX11) (T := TX11) (N := 10) hx hb hts iw_X11_trades_X11 hown hK hP 0 rfl rfl 8 (by decide) (hts (.fieldLink RX11 72 "SoldHouse" "trader" "LSoldHouse$Trader;") (List.mem_of_getElem? (i := 1) rfl)) (fun _ h9 => h9) rfl dX11_trades_1 ?_
  have hPc := hP.sub (ws' := [(aW, .inr (10, [.ref aM])), (aM, .inr (3, [.ref aF, .ref mo, .ref ma, .ref mk, .int 0, .int 0, .int 0, .ref mb, .ref mf])), (aF, .inr (0, [.ref aP, .ref fx, .ref fr, .ref fe, .int 0])), (aP, .inr (5, PF pz su))]) [1, 2, 3, 4] rfl
  refine vp_callSi (va_runV (As := []) (rest := []) ⟨hx, hb, hml, hown, hts⟩ (c_mostTrades l D cI cB cL cZ aW aM aF aP mo ma mk mb mf fx fr fe pz su) (cwV 0 hts gX11_trades_X10_mostTrades rfl rfl rfl (by decide +kernel) ⟨Nat.le_of_ble_eq_true rfl, Nat.le_of_ble_eq_true rfl⟩) ⟨xr_blind, va_recv hK hPc (ci := 10) (q0 := 0) rfl rfl, fun U hU hW => xr_mk hU hW hPc hK⟩ rfl rfl hl.1 rfl (lv_room (Nat.le_of_ble_eq_true rfl)) dX11_trades_4 ⟨Nat.le_of_ble_eq_true rfl, Nat.le_of_ble_eq_true rfl⟩).run (fun r_1 hr_1 => ?_)
  clear hPc
  subst hr_1
  exact W.iret (v := 0) hx hb hr (fun t ht hW => ⟨0, rfl, rfl, ht⟩) (fun q hq => by cases hq) dX11_trades_7
set_option maxHeartbeats 4000000 in
set_option maxRecDepth 100000 in
theorem c_worthOf (l : Launch) (D : va_G) (cI : ClassId) (cB : ClassId) (cL : ClassId) (cZ : ClassId) (a0 : Nat) (aM : Nat) (aF : Nat) (aP : Nat) (mo : Nat) (ma : Nat) (mk : Nat) (mb : Nat) (mf : Nat) (fx : Nat) (fr : Nat) (fe : Nat) (pz : Nat → Nat) (su : Nat) (x : Int32) (rr : Nat) : Met l yX10_worthOf wsX10_worthOf ({ frames := 0, cells := 0, slots := 0, locals := 0 }) (xr D [(cI, .int), (cB, .byte), (cL, .long), (cZ, .boolean)] [(a0, .inr (10, [.ref aM])), (aM, .inr (3, [.ref aF, .ref mo, .ref ma, .ref mk, .int 0, .int 0, .int 0, .ref mb, .ref mf])), (aF, .inr (0, [.ref aP, .ref fx, .ref fr, .ref fe, .int 0])), (aP, .inr (5, PF pz su))] [.ref a0, .int x, .ref rr]) (vp_Si (fun r => r = 0)) 0 0 (fun _ => False) := by
  refine Met.ofW (cc := cX10_worthOf) (maxL := 5) (ret := (some .int)) (by decide) rfl ?_
  intro p e s m args below meth c s₁ B hml hv
  obtain ⟨rfl, hP, hK⟩ := hv
  have hx := B.exec
  have hb := B.bytes
  have hr := B.returns
  have hts := atoms_spec (ws := wsX10_worthOf) B.pre
  have hown : s.vm.findClass RX10 = some m.cls := findClass_of_methodNamed B.named
  have hlocks := B.notSynchronized
  have hl := lv_entry ([.ref a0, .int x, .ref rr]) (n := 5) (Nat.le_of_ble_eq_true rfl)
  rw [lg_entry_eq]
  generalize (lg_sl ([.ref a0, .int x, .ref rr]) ++ List.replicate (5 - (lg_sl ([.ref a0, .int x, .ref rr])).length) Slot.unset).toArray = ls at hl ⊢
  replace hl : lv_has ls 5 [(0, .ref a0), (1, .int x), (2, .ref rr)] := hl
  refine lv_iconst (v := 0) hx hb dX10_worthOf_0 (by decide) ?_
  refine lv_istore_n (lv' := [(3, .int 0), (0, .ref a0), (1, .int x), (2, .ref rr)]) hx hb dX10_worthOf_1 rfl hl (by decide) rfl (fun ls hl => ?_)
  refine lv_iconst (v := 0) hx hb dX10_worthOf_2 (by decide) ?_
  refine lv_istore (lv' := [(4, .int 0), (3, .int 0), (0, .ref a0), (1, .int x), (2, .ref rr)]) hx hb dX10_worthOf_3 hl (by decide) rfl (fun ls hl => ?_)
  refine lv_iload hx hb dX10_worthOf_5 (lv_at hl 0 rfl) ?_
  refine lv_aload_n hx hb dX10_worthOf_7 rfl (lv_at hl 2 rfl) ?_
  refine va_get (D := D) (ci := 10) (v := .ref aM) (C := RX10) (T := TX10) (N := 1) hx hb hts iw_X10_worthOf_X10 hown hK hP 0 rfl rfl 0 (by decide) (hts (.fieldLink RX10 9 "SoldHouse$Trader" "memory" "LSoldHouse$Memory;") (List.mem_of_getElem? (i := 1) rfl)) (fun _ h9 => h9) rfl dX10_worthOf_8 ?_
  refine va_get (D := D) (ci := 3) (v := .ref aF) (C := RX3) (T := TX3) (N := 9) hx hb hts iw_X10_worthOf_X3 hown hK hP 1 rfl rfl 0 (by decide) (hts (.fieldLink RX10 15 "SoldHouse$Memory" "floor" "LSoldHouse$Floor;") (List.mem_of_getElem? (i := 2) rfl)) (fun _ h9 => h9) rfl dX10_worthOf_11 ?_
  refine va_get (D := D) (ci := 0) (v := .ref aP) (C := RX0) (T := TX0) (N := 5) hx hb hts iw_X10_worthOf_X0 hown hK hP 2 rfl rfl 0 (by decide) (hts (.fieldLink RX10 21 "SoldHouse$Floor" "plan" "LSoldHouse$Plan;") (List.mem_of_getElem? (i := 3) rfl)) (fun _ h9 => h9) rfl dX10_worthOf_14 ?_
  refine va_get (D := D) (ci := 5) (v := .int 0) (C := RX5) (T := TX5) (N := 16) hx hb hts iw_X10_worthOf_X5 hown hK hP 3 rfl rfl 6 (by decide) (hts (.fieldLink RX10 27 "SoldHouse$Plan" "things" "I") (List.mem_of_getElem? (i := 4) rfl)) (fun _ h9 => h9) rfl dX10_worthOf_17 ?_
  refine lv_icmp_ge (tgt := 53) hx hb dX10_worthOf_20 (by decide) (fun _ => ?_) (fun c_1 => absurd (by decide) c_1)
  refine lv_iload_n hx hb dX10_worthOf_53 rfl (lv_at hl 1 rfl) ?_
  exact W.iret (v := 0) hx hb hr (fun t ht hW => ⟨0, rfl, rfl, ht⟩) (fun q hq => by cases hq) dX10_worthOf_54
set_option maxHeartbeats 4000000 in
set_option maxRecDepth 100000 in
theorem c_wealth (l : Launch) (D : va_G) (cI : ClassId) (cB : ClassId) (cL : ClassId) (cZ : ClassId) (a0 : Nat) (aP : Nat) (aD : Nat) (aT : Nat) (aR : Nat) (aF : Nat) (aU : Nat) (aH : Nat) (aM : Nat) (aW : Nat) (aN : Nat) (mo : Nat) (ma : Nat) (mk : Nat) (mb : Nat) (mf : Nat) (fx : Nat) (fr : Nat) (fe : Nat) (pz : Nat → Nat) (su : Nat) (x : Int32) : Met l yX11_wealth wsX11_wealth ({ frames := 1, cells := 0, slots := 0, locals := 24 }) (xr D [(cI, .int), (cB, .byte), (cL, .long), (cZ, .boolean)] [(a0, .inr (11, [.ref aP, .ref aD, .ref aT, .ref aR, .ref aF, .ref aU, .ref aH, .ref aM, .ref aW, .ref aN])), (aW, .inr (10, [.ref aM])), (aM, .inr (3, [.ref aF, .ref mo, .ref ma, .ref mk, .int 0, .int 0, .int 0, .ref mb, .ref mf])), (aF, .inr (0, [.ref aP, .ref fx, .ref fr, .ref fe, .int 0])), (aP, .inr (5, PF pz su))] [.ref a0, .int x]) (vp_Si (fun r => r = sp_rng 1 x)) 0 0 (fun _ => False) := by
  refine Met.ofW (cc := cX11_wealth) (maxL := 2) (ret := (some .int)) (by decide) rfl ?_
  intro p e s m args below meth c s₁ B hml hv
  obtain ⟨rfl, hP, hK⟩ := hv
  have hx := B.exec
  have hb := B.bytes
  have hr := B.returns
  have hts := atoms_spec (ws := wsX11_wealth) B.pre
  have hown : s.vm.findClass RX11 = some m.cls := findClass_of_methodNamed B.named
  have hlocks := B.notSynchronized
  have hl := lv_entry ([.ref a0, .int x]) (n := 2) (Nat.le_of_ble_eq_true rfl)
  rw [lg_entry_eq]
  generalize (lg_sl ([.ref a0, .int x]) ++ List.replicate (2 - (lg_sl ([.ref a0, .int x])).length) Slot.unset).toArray = ls at hl ⊢
  replace hl : lv_has ls 2 [(0, .ref a0), (1, .int x)] := hl
  refine lv_iload_n hx hb dX11_wealth_0 rfl (lv_at hl 1 rfl) ?_
  by_cases c_1 : x = 0
  · obtain rfl := c_1
    refine lv_lookup (off := 27) (tgt := 28) hx hb dX11_wealth_1 (by decide) (by decide) (by decide) ?_
    refine lv_aload_n hx hb dX11_wealth_28 rfl (lv_at hl 0 rfl) ?_
    refine va_get (D := D) (ci := 11) (v := .ref aW) (C := RX11) (T := TX11) (N := 10) hx hb hts iw_X11_wealth_X11 hown hK hP 0 rfl rfl 8 (by decide) (hts (.fieldLink RX11 72 "SoldHouse" "trader" "LSoldHouse$Trader;") (List.mem_of_getElem? (i := 1) rfl)) (fun _ h9 => h9) rfl dX11_wealth_29 ?_
    refine lv_iconst (v := 1) hx hb dX11_wealth_32 (by decide) ?_
    refine lv_aload_n hx hb dX11_wealth_33 rfl (lv_at hl 0 rfl) ?_
    refine va_get (D := D) (ci := 11) (v := .ref aP) (C := RX11) (T := TX11) (N := 10) hx hb hts iw_X11_wealth_X11 hown hK hP 0 rfl rfl 0 (by decide) (hts (.fieldLink RX11 10 "SoldHouse" "plan" "LSoldHouse$Plan;") (List.mem_of_getElem? (i := 2) rfl)) (fun _ h9 => h9) rfl dX11_wealth_34 ?_
    refine va_get (D := D) (ci := 5) (v := .ref (pz 11)) (C := RX5) (T := TX5) (N := 16) hx hb hts iw_X11_wealth_X5 hown hK hP 4 rfl rfl 11 (by decide) (hts (.fieldLink RX11 131 "SoldHouse$Plan" "us" "[I") (List.mem_of_getElem? (i := 3) rfl)) (fun _ h9 => h9) rfl dX11_wealth_37 ?_
    have hPc := hP.sub (ws' := [(aW, .inr (10, [.ref aM])), (aM, .inr (3, [.ref aF, .ref mo, .ref ma, .ref mk, .int 0, .int 0, .int 0, .ref mb, .ref mf])), (aF, .inr (0, [.ref aP, .ref fx, .ref fr, .ref fe, .int 0])), (aP, .inr (5, PF pz su))]) [1, 2, 3, 4] rfl
    refine vp_callSi (va_runV (As := [.int 1, .ref (pz 11)]) (rest := []) ⟨hx, hb, hml, hown, hts⟩ (c_worthOf l D cI cB cL cZ aW aM aF aP mo ma mk mb mf fx fr fe pz su 1 ((pz 11))) (cwV 2 hts gX11_wealth_X10_worthOf rfl rfl rfl (by decide +kernel) ⟨Nat.le_of_ble_eq_true rfl, Nat.le_of_ble_eq_true rfl⟩) ⟨xr_blind, va_recv hK hPc (ci := 10) (q0 := 0) rfl rfl, fun U hU hW => xr_mk hU hW hPc hK⟩ rfl rfl hl.1 rfl (lv_room (Nat.le_of_ble_eq_true rfl)) dX11_wealth_40 ⟨Nat.le_of_ble_eq_true rfl, Nat.le_of_ble_eq_true rfl⟩).run (fun r_2 hr_2 => ?_)
    clear hPc
    subst hr_2
    exact W.iret (v := 0) hx hb hr (fun t ht hW => ⟨0, rfl, (by decide), ht⟩) (fun q hq => by cases hq) dX11_wealth_43
  by_cases c_3 : x = 1
  · obtain rfl := c_3
    refine lv_lookup (off := 43) (tgt := 44) hx hb dX11_wealth_1 (by decide) (by decide) (by decide) ?_
    refine lv_aload_n hx hb dX11_wealth_44 rfl (lv_at hl 0 rfl) ?_
    refine va_get (D := D) (ci := 11) (v := .ref aW) (C := RX11) (T := TX11) (N := 10) hx hb hts iw_X11_wealth_X11 hown hK hP 0 rfl rfl 8 (by decide) (hts (.fieldLink RX11 72 "SoldHouse" "trader" "LSoldHouse$Trader;") (List.mem_of_getElem? (i := 1) rfl)) (fun _ h9 => h9) rfl dX11_wealth_45 ?_
    refine lv_iconst (v := 0) hx hb dX11_wealth_48 (by decide) ?_
    refine lv_aload_n hx hb dX11_wealth_49 rfl (lv_at hl 0 rfl) ?_
    refine va_get (D := D) (ci := 11) (v := .ref aP) (C := RX11) (T := TX11) (N := 10) hx hb hts iw_X11_wealth_X11 hown hK hP 0 rfl rfl 0 (by decide) (hts (.fieldLink RX11 10 "SoldHouse" "plan" "LSoldHouse$Plan;") (List.mem_of_getElem? (i := 2) rfl)) (fun _ h9 => h9) rfl dX11_wealth_50 ?_
    refine va_get (D := D) (ci := 5) (v := .ref (pz 12)) (C := RX5) (T := TX5) (N := 16) hx hb hts iw_X11_wealth_X5 hown hK hP 4 rfl rfl 12 (by decide) (hts (.fieldLink RX11 134 "SoldHouse$Plan" "them" "[I") (List.mem_of_getElem? (i := 4) rfl)) (fun _ h9 => h9) rfl dX11_wealth_53 ?_
    have hPc := hP.sub (ws' := [(aW, .inr (10, [.ref aM])), (aM, .inr (3, [.ref aF, .ref mo, .ref ma, .ref mk, .int 0, .int 0, .int 0, .ref mb, .ref mf])), (aF, .inr (0, [.ref aP, .ref fx, .ref fr, .ref fe, .int 0])), (aP, .inr (5, PF pz su))]) [1, 2, 3, 4] rfl
    refine vp_callSi (va_runV (As := [.int 0, .ref (pz 12)]) (rest := []) ⟨hx, hb, hml, hown, hts⟩ (c_worthOf l D cI cB cL cZ aW aM aF aP mo ma mk mb mf fx fr fe pz su 0 ((pz 12))) (cwV 2 hts gX11_wealth_X10_worthOf rfl rfl rfl (by decide +kernel) ⟨Nat.le_of_ble_eq_true rfl, Nat.le_of_ble_eq_true rfl⟩) ⟨xr_blind, va_recv hK hPc (ci := 10) (q0 := 0) rfl rfl, fun U hU hW => xr_mk hU hW hPc hK⟩ rfl rfl hl.1 rfl (lv_room (Nat.le_of_ble_eq_true rfl)) dX11_wealth_56 ⟨Nat.le_of_ble_eq_true rfl, Nat.le_of_ble_eq_true rfl⟩).run (fun r_4 hr_4 => ?_)
    clear hPc
    subst hr_4
    exact W.iret (v := 0) hx hb hr (fun t ht hW => ⟨0, rfl, (by decide), ht⟩) (fun q hq => by cases hq) dX11_wealth_59
  refine lv_lookup (off := 59) (tgt := 60) hx hb dX11_wealth_1 (by decide) ((lv_osw c_1 (by decide)).trans ((lv_osw c_3 (by decide)).trans rfl)) (by decide) ?_
  refine lv_iconst (v := (-1)) hx hb dX11_wealth_60 (by decide) ?_
  exact W.iret (v := (-1)) hx hb hr (fun t ht hW => ⟨(-1), rfl, (sp_rng_ne2 c_1 c_3).symm, ht⟩) (fun q hq => by cases hq) dX11_wealth_61
set_option maxHeartbeats 4000000 in
set_option maxRecDepth 100000 in
theorem c_off (l : Launch) (D : va_G) (cI : ClassId) (cB : ClassId) (cL : ClassId) (cZ : ClassId) (a0 : Nat) (aP : Nat) (aD : Nat) (aT : Nat) (aR : Nat) (aF : Nat) (aU : Nat) (aH : Nat) (aM : Nat) (aW : Nat) (aN : Nat) (pz : Nat → Nat) (su : Nat) : Met l yX11_off wsX11_off ({ frames := 0, cells := 0, slots := 0, locals := 0 }) (xr D [(cI, .int), (cB, .byte), (cL, .long), (cZ, .boolean)] [(a0, .inr (11, [.ref aP, .ref aD, .ref aT, .ref aR, .ref aF, .ref aU, .ref aH, .ref aM, .ref aW, .ref aN])), (aP, .inr (5, PF pz su))] [.ref a0]) (vp_Si (fun r => r = 0)) 0 0 (fun _ => False) := by
  refine Met.ofW (cc := cX11_off) (maxL := 3) (ret := (some .int)) (by decide) rfl ?_
  intro p e s m args below meth c s₁ B hml hv
  obtain ⟨rfl, hP, hK⟩ := hv
  have hx := B.exec
  have hb := B.bytes
  have hr := B.returns
  have hts := atoms_spec (ws := wsX11_off) B.pre
  have hown : s.vm.findClass RX11 = some m.cls := findClass_of_methodNamed B.named
  have hlocks := B.notSynchronized
  have hl := lv_entry ([.ref a0]) (n := 3) (Nat.le_of_ble_eq_true rfl)
  rw [lg_entry_eq]
  generalize (lg_sl ([.ref a0]) ++ List.replicate (3 - (lg_sl ([.ref a0])).length) Slot.unset).toArray = ls at hl ⊢
  replace hl : lv_has ls 3 [(0, .ref a0)] := hl
  refine lv_iconst (v := 0) hx hb dX11_off_0 (by decide) ?_
  refine lv_istore_n (lv' := [(1, .int 0), (0, .ref a0)]) hx hb dX11_off_1 rfl hl (by decide) rfl (fun ls hl => ?_)
  refine lv_iconst (v := 0) hx hb dX11_off_2 (by decide) ?_
  refine lv_istore_n (lv' := [(2, .int 0), (1, .int 0), (0, .ref a0)]) hx hb dX11_off_3 rfl hl (by decide) rfl (fun ls hl => ?_)
  refine lv_iload_n hx hb dX11_off_4 rfl (lv_at hl 0 rfl) ?_
  refine lv_aload_n hx hb dX11_off_5 rfl (lv_at hl 2 rfl) ?_
  refine va_get (D := D) (ci := 11) (v := .ref aP) (C := RX11) (T := TX11) (N := 10) hx hb hts iw_X11_off_X11 hown hK hP 0 rfl rfl 0 (by decide) (hts (.fieldLink RX11 10 "SoldHouse" "plan" "LSoldHouse$Plan;") (List.mem_of_getElem? (i := 1) rfl)) (fun _ h9 => h9) rfl dX11_off_6 ?_
  refine va_get (D := D) (ci := 5) (v := .int 0) (C := RX5) (T := TX5) (N := 16) hx hb hts iw_X11_off_X5 hown hK hP 1 rfl rfl 6 (by decide) (hts (.fieldLink RX11 253 "SoldHouse$Plan" "things" "I") (List.mem_of_getElem? (i := 2) rfl)) (fun _ h9 => h9) rfl dX11_off_9 ?_
  refine lv_icmp_ge (tgt := 39) hx hb dX11_off_12 (by decide) (fun _ => ?_) (fun c_1 => absurd (by decide) c_1)
  refine lv_iload_n hx hb dX11_off_39 rfl (lv_at hl 1 rfl) ?_
  exact W.iret (v := 0) hx hb hr (fun t ht hW => ⟨0, rfl, rfl, ht⟩) (fun q hq => by cases hq) dX11_off_40
set_option maxHeartbeats 4000000 in
set_option maxRecDepth 100000 in
theorem c_rightThings (l : Launch) (D : va_G) (cI : ClassId) (cB : ClassId) (cL : ClassId) (cZ : ClassId) (a0 : Nat) (aF : Nat) (aP : Nat) (mo : Nat) (ma : Nat) (mk : Nat) (mb : Nat) (mf : Nat) (fx : Nat) (fr : Nat) (fe : Nat) (pz : Nat → Nat) (su : Nat) (rr : Nat) : Met l yX3_rightThings wsX3_rightThings ({ frames := 0, cells := 0, slots := 0, locals := 0 }) (xr D [(cI, .int), (cB, .byte), (cL, .long), (cZ, .boolean)] [(a0, .inr (3, [.ref aF, .ref mo, .ref ma, .ref mk, .int 0, .int 0, .int 0, .ref mb, .ref mf])), (aF, .inr (0, [.ref aP, .ref fx, .ref fr, .ref fe, .int 0])), (aP, .inr (5, PF pz su))] [.ref a0, .ref rr]) (vp_Si (fun r => r = 0)) 0 0 (fun _ => False) := by
  refine Met.ofW (cc := cX3_rightThings) (maxL := 4) (ret := (some .int)) (by decide) rfl ?_
  intro p e s m args below meth c s₁ B hml hv
  obtain ⟨rfl, hP, hK⟩ := hv
  have hx := B.exec
  have hb := B.bytes
  have hr := B.returns
  have hts := atoms_spec (ws := wsX3_rightThings) B.pre
  have hown : s.vm.findClass RX3 = some m.cls := findClass_of_methodNamed B.named
  have hlocks := B.notSynchronized
  have hl := lv_entry ([.ref a0, .ref rr]) (n := 4) (Nat.le_of_ble_eq_true rfl)
  rw [lg_entry_eq]
  generalize (lg_sl ([.ref a0, .ref rr]) ++ List.replicate (4 - (lg_sl ([.ref a0, .ref rr])).length) Slot.unset).toArray = ls at hl ⊢
  replace hl : lv_has ls 4 [(0, .ref a0), (1, .ref rr)] := hl
  refine lv_iconst (v := 0) hx hb dX3_rightThings_0 (by decide) ?_
  refine lv_istore_n (lv' := [(2, .int 0), (0, .ref a0), (1, .ref rr)]) hx hb dX3_rightThings_1 rfl hl (by decide) rfl (fun ls hl => ?_)
  refine lv_iconst (v := 0) hx hb dX3_rightThings_2 (by decide) ?_
  refine lv_istore_n (lv' := [(3, .int 0), (2, .int 0), (0, .ref a0), (1, .ref rr)]) hx hb dX3_rightThings_3 rfl hl (by decide) rfl (fun ls hl => ?_)
  refine lv_iload_n hx hb dX3_rightThings_4 rfl (lv_at hl 0 rfl) ?_
  refine lv_aload_n hx hb dX3_rightThings_5 rfl (lv_at hl 2 rfl) ?_
  refine va_get (D := D) (ci := 3) (v := .ref aF) (C := RX3) (T := TX3) (N := 9) hx hb hts iw_X3_rightThings_X3 hown hK hP 0 rfl rfl 0 (by decide) (hts (.fieldLink RX3 30 "SoldHouse$Memory" "floor" "LSoldHouse$Floor;") (List.mem_of_getElem? (i := 1) rfl)) (fun _ h9 => h9) rfl dX3_rightThings_6 ?_
  refine va_get (D := D) (ci := 0) (v := .ref aP) (C := RX0) (T := TX0) (N := 5) hx hb hts iw_X3_rightThings_X0 hown hK hP 1 rfl rfl 0 (by decide) (hts (.fieldLink RX3 34 "SoldHouse$Floor" "plan" "LSoldHouse$Plan;") (List.mem_of_getElem? (i := 2) rfl)) (fun _ h9 => h9) rfl dX3_rightThings_9 ?_
  refine va_get (D := D) (ci := 5) (v := .int 0) (C := RX5) (T := TX5) (N := 16) hx hb hts iw_X3_rightThings_X5 hown hK hP 2 rfl rfl 6 (by decide) (hts (.fieldLink RX3 40 "SoldHouse$Plan" "things" "I") (List.mem_of_getElem? (i := 3) rfl)) (fun _ h9 => h9) rfl dX3_rightThings_12 ?_
  refine lv_icmp_ge (tgt := 39) hx hb dX3_rightThings_15 (by decide) (fun _ => ?_) (fun c_1 => absurd (by decide) c_1)
  refine lv_iload_n hx hb dX3_rightThings_39 rfl (lv_at hl 1 rfl) ?_
  exact W.iret (v := 0) hx hb hr (fun t ht hW => ⟨0, rfl, rfl, ht⟩) (fun q hq => by cases hq) dX3_rightThings_40
set_option maxHeartbeats 4000000 in
set_option maxRecDepth 100000 in
theorem c_right (l : Launch) (D : va_G) (cI : ClassId) (cB : ClassId) (cL : ClassId) (cZ : ClassId) (a0 : Nat) (aP : Nat) (aD : Nat) (aT : Nat) (aR : Nat) (aF : Nat) (aU : Nat) (aH : Nat) (aM : Nat) (aW : Nat) (aN : Nat) (mo : Nat) (ma : Nat) (mk : Nat) (mb : Nat) (mf : Nat) (fx : Nat) (fr : Nat) (fe : Nat) (pz : Nat → Nat) (su : Nat) : Met l yX11_right wsX11_right ({ frames := 1, cells := 0, slots := 0, locals := 23 }) (xr D [(cI, .int), (cB, .byte), (cL, .long), (cZ, .boolean)] [(a0, .inr (11, [.ref aP, .ref aD, .ref aT, .ref aR, .ref aF, .ref aU, .ref aH, .ref aM, .ref aW, .ref aN])), (aM, .inr (3, [.ref aF, .ref mo, .ref ma, .ref mk, .int 0, .int 0, .int 0, .ref mb, .ref mf])), (aF, .inr (0, [.ref aP, .ref fx, .ref fr, .ref fe, .int 0])), (aP, .inr (5, PF pz su))] [.ref a0]) (vp_Si (fun r => r = 0)) 0 0 (fun _ => False) := by
  refine Met.ofW (cc := cX11_right) (maxL := 1) (ret := (some .int)) (by decide) rfl ?_
  intro p e s m args below meth c s₁ B hml hv
  obtain ⟨rfl, hP, hK⟩ := hv
  have hx := B.exec
  have hb := B.bytes
  have hr := B.returns
  have hts := atoms_spec (ws := wsX11_right) B.pre
  have hown : s.vm.findClass RX11 = some m.cls := findClass_of_methodNamed B.named
  have hlocks := B.notSynchronized
  have hl := lv_entry ([.ref a0]) (n := 1) (Nat.le_of_ble_eq_true rfl)
  rw [lg_entry_eq]
  generalize (lg_sl ([.ref a0]) ++ List.replicate (1 - (lg_sl ([.ref a0])).length) Slot.unset).toArray = ls at hl ⊢
  replace hl : lv_has ls 1 [(0, .ref a0)] := hl
  refine lv_aload_n hx hb dX11_right_0 rfl (lv_at hl 0 rfl) ?_
  refine va_get (D := D) (ci := 11) (v := .ref aM) (C := RX11) (T := TX11) (N := 10) hx hb hts iw_X11_right_X11 hown hK hP 0 rfl rfl 7 (by decide) (hts (.fieldLink RX11 63 "SoldHouse" "memory" "LSoldHouse$Memory;") (List.mem_of_getElem? (i := 1) rfl)) (fun _ h9 => h9) rfl dX11_right_1 ?_
  refine lv_aload_n hx hb dX11_right_4 rfl (lv_at hl 0 rfl) ?_
  refine va_get (D := D) (ci := 11) (v := .ref aM) (C := RX11) (T := TX11) (N := 10) hx hb hts iw_X11_right_X11 hown hK hP 0 rfl rfl 7 (by decide) (hts (.fieldLink RX11 63 "SoldHouse" "memory" "LSoldHouse$Memory;") (List.mem_of_getElem? (i := 1) rfl)) (fun _ h9 => h9) rfl dX11_right_5 ?_
  refine va_get (D := D) (ci := 3) (v := .ref mo) (C := RX3) (T := TX3) (N := 9) hx hb hts iw_X11_right_X3 hown hK hP 1 rfl rfl 1 (by decide) (hts (.fieldLink RX11 128 "SoldHouse$Memory" "now" "[I") (List.mem_of_getElem? (i := 2) rfl)) (fun _ h9 => h9) rfl dX11_right_8 ?_
  have hPc := hP.sub (ws' := [(aM, .inr (3, [.ref aF, .ref mo, .ref ma, .ref mk, .int 0, .int 0, .int 0, .ref mb, .ref mf])), (aF, .inr (0, [.ref aP, .ref fx, .ref fr, .ref fe, .int 0])), (aP, .inr (5, PF pz su))]) [1, 2, 3] rfl
  refine vp_callSi (va_runV (As := [.ref mo]) (rest := []) ⟨hx, hb, hml, hown, hts⟩ (c_rightThings l D cI cB cL cZ aM aF aP mo ma mk mb mf fx fr fe pz su mo) (cwV 1 hts gX11_right_X3_rightThings rfl rfl rfl (by decide +kernel) ⟨Nat.le_of_ble_eq_true rfl, Nat.le_of_ble_eq_true rfl⟩) ⟨xr_blind, va_recv hK hPc (ci := 3) (q0 := 0) rfl rfl, fun U hU hW => xr_mk hU hW hPc hK⟩ rfl rfl hl.1 rfl (lv_room (Nat.le_of_ble_eq_true rfl)) dX11_right_11 ⟨Nat.le_of_ble_eq_true rfl, Nat.le_of_ble_eq_true rfl⟩).run (fun r_1 hr_1 => ?_)
  clear hPc
  subst hr_1
  exact W.iret (v := 0) hx hb hr (fun t ht hW => ⟨0, rfl, rfl, ht⟩) (fun q hq => by cases hq) dX11_right_14
set_option maxHeartbeats 4000000 in
set_option maxRecDepth 100000 in
theorem c_deep (l : Launch) (D : va_G) (cI : ClassId) (cB : ClassId) (cL : ClassId) (cZ : ClassId) (a0 : Nat) (aP : Nat) (aD : Nat) (aT : Nat) (aR : Nat) (aF : Nat) (aU : Nat) (aH : Nat) (aM : Nat) (aW : Nat) (aN : Nat) (pz : Nat → Nat) (su : Nat) (x : Int32) : Met l yX11_deep wsX11_deep ({ frames := 0, cells := 0, slots := 0, locals := 0 }) (xr D [(cI, .int), (cB, .byte), (cL, .long), (cZ, .boolean)] [(a0, .inr (11, [.ref aP, .ref aD, .ref aT, .ref aR, .ref aF, .ref aU, .ref aH, .ref aM, .ref aW, .ref aN])), (aP, .inr (5, PF pz su))] [.ref a0, .int x]) (vp_Si (fun r => r = sp_rng 99 x)) 0 0 (fun _ => False) := by
  refine Met.ofW (cc := cX11_deep) (maxL := 4) (ret := (some .int)) (by decide) rfl ?_
  intro p e s m args below meth c s₁ B hml hv
  obtain ⟨rfl, hP, hK⟩ := hv
  have hx := B.exec
  have hb := B.bytes
  have hr := B.returns
  have hts := atoms_spec (ws := wsX11_deep) B.pre
  have hown : s.vm.findClass RX11 = some m.cls := findClass_of_methodNamed B.named
  have hlocks := B.notSynchronized
  have hl := lv_entry ([.ref a0, .int x]) (n := 4) (Nat.le_of_ble_eq_true rfl)
  rw [lg_entry_eq]
  generalize (lg_sl ([.ref a0, .int x]) ++ List.replicate (4 - (lg_sl ([.ref a0, .int x])).length) Slot.unset).toArray = ls at hl ⊢
  replace hl : lv_has ls 4 [(0, .ref a0), (1, .int x)] := hl
  refine lv_iload_n hx hb dX11_deep_0 rfl (lv_at hl 1 rfl) ?_
  refine lv_if_lt (tgt := 10) hx hb dX11_deep_1 (by decide) (fun c_1 => ?_) (fun c_1 => ?_)
  · refine lv_iconst (v := (-1)) hx hb dX11_deep_10 (by decide) ?_
    exact W.iret (v := (-1)) hx hb hr (fun t ht hW => ⟨(-1), rfl, (sp_rng_lt c_1).symm, ht⟩) (fun q hq => by cases hq) dX11_deep_11
  · refine lv_iload_n hx hb dX11_deep_4 rfl (lv_at hl 1 rfl) ?_
    refine lv_bipush (v := 99) hx hb dX11_deep_5 (by decide) ?_
    refine lv_icmp_le (tgt := 12) hx hb dX11_deep_7 (by decide) (fun c_2 => ?_) (fun c_2 => ?_)
    · refine lv_iconst (v := 0) hx hb dX11_deep_12 (by decide) ?_
      refine lv_istore_n (lv' := [(2, .int 0), (0, .ref a0), (1, .int x)]) hx hb dX11_deep_13 rfl hl (by decide) rfl (fun ls hl => ?_)
      refine lv_iconst (v := 0) hx hb dX11_deep_14 (by decide) ?_
      refine lv_istore_n (lv' := [(3, .int 0), (2, .int 0), (0, .ref a0), (1, .int x)]) hx hb dX11_deep_15 rfl hl (by decide) rfl (fun ls hl => ?_)
      refine lv_iload_n hx hb dX11_deep_16 rfl (lv_at hl 0 rfl) ?_
      refine lv_aload_n hx hb dX11_deep_17 rfl (lv_at hl 2 rfl) ?_
      refine va_get (D := D) (ci := 11) (v := .ref aP) (C := RX11) (T := TX11) (N := 10) hx hb hts iw_X11_deep_X11 hown hK hP 0 rfl rfl 0 (by decide) (hts (.fieldLink RX11 10 "SoldHouse" "plan" "LSoldHouse$Plan;") (List.mem_of_getElem? (i := 1) rfl)) (fun _ h9 => h9) rfl dX11_deep_18 ?_
      refine va_get (D := D) (ci := 5) (v := .int 0) (C := RX5) (T := TX5) (N := 16) hx hb hts iw_X11_deep_X5 hown hK hP 1 rfl rfl 6 (by decide) (hts (.fieldLink RX11 253 "SoldHouse$Plan" "things" "I") (List.mem_of_getElem? (i := 2) rfl)) (fun _ h9 => h9) rfl dX11_deep_21 ?_
      refine lv_icmp_ge (tgt := 55) hx hb dX11_deep_24 (by decide) (fun _ => ?_) (fun c_3 => absurd (by decide) c_3)
      refine lv_iload_n hx hb dX11_deep_55 rfl (lv_at hl 1 rfl) ?_
      exact W.iret (v := 0) hx hb hr (fun t ht hW => ⟨0, rfl, (sp_rng_in c_1 (Int32.not_lt.mpr c_2)).symm, ht⟩) (fun q hq => by cases hq) dX11_deep_56
    · refine lv_iconst (v := (-1)) hx hb dX11_deep_10 (by decide) ?_
      exact W.iret (v := (-1)) hx hb hr (fun t ht hW => ⟨(-1), rfl, (sp_rng_gt c_1 (Int32.not_le.mp c_2)).symm, ht⟩) (fun q hq => by cases hq) dX11_deep_11
set_option maxHeartbeats 4000000 in
set_option maxRecDepth 100000 in
theorem c_stay (l : Launch) (D : va_G) (cI : ClassId) (cB : ClassId) (cL : ClassId) (cZ : ClassId) (a0 : Nat) (aP : Nat) (aD : Nat) (aT : Nat) (aR : Nat) (aF : Nat) (aU : Nat) (aH : Nat) (aM : Nat) (aW : Nat) (aN : Nat) (pz : Nat → Nat) (su : Nat) (x : Int32) (y : Int32) (z : Int32) : Met l yX11_stay wsX11_stay ({ frames := 1, cells := 0, slots := 0, locals := 21 }) (xr D [(cI, .int), (cB, .byte), (cL, .long), (cZ, .boolean)] [(a0, .inr (11, [.ref aP, .ref aD, .ref aT, .ref aR, .ref aF, .ref aU, .ref aH, .ref aM, .ref aW, .ref aN])), (aP, .inr (5, PF pz su))] [.ref a0, .int x, .int y, .int z]) (vp_Si (fun r => r = (-1))) 0 0 (fun _ => False) := by
  refine Met.ofW (cc := cX11_stay) (maxL := 4) (ret := (some .int)) (by decide) rfl ?_
  intro p e s m args below meth c s₁ B hml hv
  obtain ⟨rfl, hP, hK⟩ := hv
  have hx := B.exec
  have hb := B.bytes
  have hr := B.returns
  have hts := atoms_spec (ws := wsX11_stay) B.pre
  have hown : s.vm.findClass RX11 = some m.cls := findClass_of_methodNamed B.named
  have hlocks := B.notSynchronized
  have hl := lv_entry ([.ref a0, .int x, .int y, .int z]) (n := 4) (Nat.le_of_ble_eq_true rfl)
  rw [lg_entry_eq]
  generalize (lg_sl ([.ref a0, .int x, .int y, .int z]) ++ List.replicate (4 - (lg_sl ([.ref a0, .int x, .int y, .int z])).length) Slot.unset).toArray = ls at hl ⊢
  replace hl : lv_has ls 4 [(0, .ref a0), (1, .int x), (2, .int y), (3, .int z)] := hl
  refine lv_aload_n hx hb dX11_stay_0 rfl (lv_at hl 0 rfl) ?_
  refine lv_iload_n hx hb dX11_stay_1 rfl (lv_at hl 1 rfl) ?_
  have hPc := hP.sub (ws' := [(a0, .inr (11, [.ref aP, .ref aD, .ref aT, .ref aR, .ref aF, .ref aU, .ref aH, .ref aM, .ref aW, .ref aN])), (aP, .inr (5, PF pz su))]) [0, 1] rfl
  refine vp_callSi (va_runV (As := [.int x]) (rest := []) ⟨hx, hb, hml, hown, hts⟩ (c_isThing l D cI cB cL cZ a0 aP aD aT aR aF aU aH aM aW aN pz su x) (cwV 1 hts gX11_stay_X11_isThing rfl rfl rfl (by decide +kernel) ⟨Nat.le_of_ble_eq_true rfl, Nat.le_of_ble_eq_true rfl⟩) ⟨xr_blind, va_recv hK hPc (ci := 11) (q0 := 0) rfl rfl, fun U hU hW => xr_mk hU hW hPc hK⟩ rfl rfl hl.1 rfl (lv_room (Nat.le_of_ble_eq_true rfl)) dX11_stay_2 ⟨Nat.le_of_ble_eq_true rfl, Nat.le_of_ble_eq_true rfl⟩).run (fun r_1 hr_1 => ?_)
  clear hPc
  subst hr_1
  refine lv_if_eq (tgt := 26) hx hb dX11_stay_5 (by decide) (fun _ => ?_) (fun c_2 => absurd (by decide) c_2)
  refine lv_iconst (v := (-1)) hx hb dX11_stay_26 (by decide) ?_
  exact W.iret (v := (-1)) hx hb hr (fun t ht hW => ⟨(-1), rfl, rfl, ht⟩) (fun q hq => by cases hq) dX11_stay_27
set_option maxHeartbeats 4000000 in
set_option maxRecDepth 100000 in
theorem c_will (l : Launch) (D : va_G) (cI : ClassId) (cB : ClassId) (cL : ClassId) (cZ : ClassId) (a0 : Nat) (aP : Nat) (aD : Nat) (aT : Nat) (aR : Nat) (aF : Nat) (aU : Nat) (aH : Nat) (aM : Nat) (aW : Nat) (aN : Nat) (pz : Nat → Nat) (su : Nat) (x : Int32) (y : Int32) : Met l yX11_will wsX11_will ({ frames := 1, cells := 0, slots := 0, locals := 21 }) (xr D [(cI, .int), (cB, .byte), (cL, .long), (cZ, .boolean)] [(a0, .inr (11, [.ref aP, .ref aD, .ref aT, .ref aR, .ref aF, .ref aU, .ref aH, .ref aM, .ref aW, .ref aN])), (aP, .inr (5, PF pz su))] [.ref a0, .int x, .int y]) (vp_Si (fun r => r = (-1))) 0 0 (fun _ => False) := by
  refine Met.ofW (cc := cX11_will) (maxL := 3) (ret := (some .int)) (by decide) rfl ?_
  intro p e s m args below meth c s₁ B hml hv
  obtain ⟨rfl, hP, hK⟩ := hv
  have hx := B.exec
  have hb := B.bytes
  have hr := B.returns
  have hts := atoms_spec (ws := wsX11_will) B.pre
  have hown : s.vm.findClass RX11 = some m.cls := findClass_of_methodNamed B.named
  have hlocks := B.notSynchronized
  have hl := lv_entry ([.ref a0, .int x, .int y]) (n := 3) (Nat.le_of_ble_eq_true rfl)
  rw [lg_entry_eq]
  generalize (lg_sl ([.ref a0, .int x, .int y]) ++ List.replicate (3 - (lg_sl ([.ref a0, .int x, .int y])).length) Slot.unset).toArray = ls at hl ⊢
  replace hl : lv_has ls 3 [(0, .ref a0), (1, .int x), (2, .int y)] := hl
  refine lv_aload_n hx hb dX11_will_0 rfl (lv_at hl 0 rfl) ?_
  refine lv_iload_n hx hb dX11_will_1 rfl (lv_at hl 1 rfl) ?_
  have hPc := hP.sub (ws' := [(a0, .inr (11, [.ref aP, .ref aD, .ref aT, .ref aR, .ref aF, .ref aU, .ref aH, .ref aM, .ref aW, .ref aN])), (aP, .inr (5, PF pz su))]) [0, 1] rfl
  refine vp_callSi (va_runV (As := [.int x]) (rest := []) ⟨hx, hb, hml, hown, hts⟩ (c_isThing l D cI cB cL cZ a0 aP aD aT aR aF aU aH aM aW aN pz su x) (cwV 1 hts gX11_will_X11_isThing rfl rfl rfl (by decide +kernel) ⟨Nat.le_of_ble_eq_true rfl, Nat.le_of_ble_eq_true rfl⟩) ⟨xr_blind, va_recv hK hPc (ci := 11) (q0 := 0) rfl rfl, fun U hU hW => xr_mk hU hW hPc hK⟩ rfl rfl hl.1 rfl (lv_room (Nat.le_of_ble_eq_true rfl)) dX11_will_2 ⟨Nat.le_of_ble_eq_true rfl, Nat.le_of_ble_eq_true rfl⟩).run (fun r_1 hr_1 => ?_)
  clear hPc
  subst hr_1
  refine lv_if_eq (tgt := 18) hx hb dX11_will_5 (by decide) (fun _ => ?_) (fun c_2 => absurd (by decide) c_2)
  refine lv_iconst (v := (-1)) hx hb dX11_will_18 (by decide) ?_
  exact W.iret (v := (-1)) hx hb hr (fun t ht hW => ⟨(-1), rfl, rfl, ht⟩) (fun q hq => by cases hq) dX11_will_19
set_option maxHeartbeats 4000000 in
set_option maxRecDepth 100000 in
theorem c_daysTillLost (l : Launch) (D : va_G) (cI : ClassId) (cB : ClassId) (cL : ClassId) (cZ : ClassId) (a0 : Nat) (aF : Nat) (aP : Nat) (mo : Nat) (ma : Nat) (mk : Nat) (mb : Nat) (mf : Nat) (fx : Nat) (fr : Nat) (fe : Nat) (pz : Nat → Nat) (su : Nat) : Met l yX3_daysTillLost wsX3_daysTillLost ({ frames := 0, cells := 0, slots := 0, locals := 0 }) (xr D [(cI, .int), (cB, .byte), (cL, .long), (cZ, .boolean)] [(a0, .inr (3, [.ref aF, .ref mo, .ref ma, .ref mk, .int 0, .int 0, .int 0, .ref mb, .ref mf])), (aF, .inr (0, [.ref aP, .ref fx, .ref fr, .ref fe, .int 0])), (aP, .inr (5, PF pz su))] [.ref a0]) (vp_Si (fun r => r = (-1))) 0 0 (fun _ => False) := by
  refine Met.ofW (cc := cX3_daysTillLost) (maxL := 2) (ret := (some .int)) (by decide) rfl ?_
  intro p e s m args below meth c s₁ B hml hv
  obtain ⟨rfl, hP, hK⟩ := hv
  have hx := B.exec
  have hb := B.bytes
  have hr := B.returns
  have hts := atoms_spec (ws := wsX3_daysTillLost) B.pre
  have hown : s.vm.findClass RX3 = some m.cls := findClass_of_methodNamed B.named
  have hlocks := B.notSynchronized
  have hl := lv_entry ([.ref a0]) (n := 2) (Nat.le_of_ble_eq_true rfl)
  rw [lg_entry_eq]
  generalize (lg_sl ([.ref a0]) ++ List.replicate (2 - (lg_sl ([.ref a0])).length) Slot.unset).toArray = ls at hl ⊢
  replace hl : lv_has ls 2 [(0, .ref a0)] := hl
  refine lv_aload_n hx hb dX3_daysTillLost_0 rfl (lv_at hl 0 rfl) ?_
  refine va_get (D := D) (ci := 3) (v := .ref aF) (C := RX3) (T := TX3) (N := 9) hx hb hts iw_X3_daysTillLost_X3 hown hK hP 0 rfl rfl 0 (by decide) (hts (.fieldLink RX3 30 "SoldHouse$Memory" "floor" "LSoldHouse$Floor;") (List.mem_of_getElem? (i := 1) rfl)) (fun _ h9 => h9) rfl dX3_daysTillLost_1 ?_
  refine va_get (D := D) (ci := 0) (v := .ref aP) (C := RX0) (T := TX0) (N := 5) hx hb hts iw_X3_daysTillLost_X0 hown hK hP 1 rfl rfl 0 (by decide) (hts (.fieldLink RX3 34 "SoldHouse$Floor" "plan" "LSoldHouse$Plan;") (List.mem_of_getElem? (i := 2) rfl)) (fun _ h9 => h9) rfl dX3_daysTillLost_4 ?_
  refine va_get (D := D) (ci := 5) (v := .int 0) (C := RX5) (T := TX5) (N := 16) hx hb hts iw_X3_daysTillLost_X5 hown hK hP 2 rfl rfl 6 (by decide) (hts (.fieldLink RX3 40 "SoldHouse$Plan" "things" "I") (List.mem_of_getElem? (i := 3) rfl)) (fun _ h9 => h9) rfl dX3_daysTillLost_7 ?_
  refine lv_if_ne (tgt := 15) hx hb dX3_daysTillLost_10 (by decide) (fun c_1 => absurd (by decide) c_1) (fun _ => ?_)
  refine lv_iconst (v := (-1)) hx hb dX3_daysTillLost_13 (by decide) ?_
  exact W.iret (v := (-1)) hx hb hr (fun t ht hW => ⟨(-1), rfl, rfl, ht⟩) (fun q hq => by cases hq) dX3_daysTillLost_14
set_option maxHeartbeats 4000000 in
set_option maxRecDepth 100000 in
theorem c_lost (l : Launch) (D : va_G) (cI : ClassId) (cB : ClassId) (cL : ClassId) (cZ : ClassId) (a0 : Nat) (aP : Nat) (aD : Nat) (aT : Nat) (aR : Nat) (aF : Nat) (aU : Nat) (aH : Nat) (aM : Nat) (aW : Nat) (aN : Nat) (mo : Nat) (ma : Nat) (mk : Nat) (mb : Nat) (mf : Nat) (fx : Nat) (fr : Nat) (fe : Nat) (pz : Nat → Nat) (su : Nat) : Met l yX11_lost wsX11_lost ({ frames := 1, cells := 0, slots := 0, locals := 21 }) (xr D [(cI, .int), (cB, .byte), (cL, .long), (cZ, .boolean)] [(a0, .inr (11, [.ref aP, .ref aD, .ref aT, .ref aR, .ref aF, .ref aU, .ref aH, .ref aM, .ref aW, .ref aN])), (aM, .inr (3, [.ref aF, .ref mo, .ref ma, .ref mk, .int 0, .int 0, .int 0, .ref mb, .ref mf])), (aF, .inr (0, [.ref aP, .ref fx, .ref fr, .ref fe, .int 0])), (aP, .inr (5, PF pz su))] [.ref a0]) (vp_Si (fun r => r = (-1))) 0 0 (fun _ => False) := by
  refine Met.ofW (cc := cX11_lost) (maxL := 1) (ret := (some .int)) (by decide) rfl ?_
  intro p e s m args below meth c s₁ B hml hv
  obtain ⟨rfl, hP, hK⟩ := hv
  have hx := B.exec
  have hb := B.bytes
  have hr := B.returns
  have hts := atoms_spec (ws := wsX11_lost) B.pre
  have hown : s.vm.findClass RX11 = some m.cls := findClass_of_methodNamed B.named
  have hlocks := B.notSynchronized
  have hl := lv_entry ([.ref a0]) (n := 1) (Nat.le_of_ble_eq_true rfl)
  rw [lg_entry_eq]
  generalize (lg_sl ([.ref a0]) ++ List.replicate (1 - (lg_sl ([.ref a0])).length) Slot.unset).toArray = ls at hl ⊢
  replace hl : lv_has ls 1 [(0, .ref a0)] := hl
  refine lv_aload_n hx hb dX11_lost_0 rfl (lv_at hl 0 rfl) ?_
  refine va_get (D := D) (ci := 11) (v := .ref aM) (C := RX11) (T := TX11) (N := 10) hx hb hts iw_X11_lost_X11 hown hK hP 0 rfl rfl 7 (by decide) (hts (.fieldLink RX11 63 "SoldHouse" "memory" "LSoldHouse$Memory;") (List.mem_of_getElem? (i := 1) rfl)) (fun _ h9 => h9) rfl dX11_lost_1 ?_
  have hPc := hP.sub (ws' := [(aM, .inr (3, [.ref aF, .ref mo, .ref ma, .ref mk, .int 0, .int 0, .int 0, .ref mb, .ref mf])), (aF, .inr (0, [.ref aP, .ref fx, .ref fr, .ref fe, .int 0])), (aP, .inr (5, PF pz su))]) [1, 2, 3] rfl
  refine vp_callSi (va_runV (As := []) (rest := []) ⟨hx, hb, hml, hown, hts⟩ (c_daysTillLost l D cI cB cL cZ aM aF aP mo ma mk mb mf fx fr fe pz su) (cwV 0 hts gX11_lost_X3_daysTillLost rfl rfl rfl (by decide +kernel) ⟨Nat.le_of_ble_eq_true rfl, Nat.le_of_ble_eq_true rfl⟩) ⟨xr_blind, va_recv hK hPc (ci := 3) (q0 := 0) rfl rfl, fun U hU hW => xr_mk hU hW hPc hK⟩ rfl rfl hl.1 rfl (lv_room (Nat.le_of_ble_eq_true rfl)) dX11_lost_4 ⟨Nat.le_of_ble_eq_true rfl, Nat.le_of_ble_eq_true rfl⟩).run (fun r_1 hr_1 => ?_)
  clear hPc
  subst hr_1
  exact W.iret (v := (-1)) hx hb hr (fun t ht hW => ⟨(-1), rfl, rfl, ht⟩) (fun q hq => by cases hq) dX11_lost_7
set_option maxHeartbeats 4000000 in
set_option maxRecDepth 100000 in
theorem c_lies (l : Launch) (D : va_G) (cI : ClassId) (cB : ClassId) (cL : ClassId) (cZ : ClassId) (a0 : Nat) (aP : Nat) (aD : Nat) (aT : Nat) (aR : Nat) (aF : Nat) (aU : Nat) (aH : Nat) (aM : Nat) (aW : Nat) (aN : Nat) (ul : Nat) (uc : Nat) (ue : Nat) (x : Int32) : Met l yX11_lies wsX11_lies ({ frames := 0, cells := 0, slots := 0, locals := 0 }) (xr D [(cI, .int), (cB, .byte), (cL, .long), (cZ, .boolean)] [(a0, .inr (11, [.ref aP, .ref aD, .ref aT, .ref aR, .ref aF, .ref aU, .ref aH, .ref aM, .ref aW, .ref aN])), (aU, .inr (7, [.ref aF, .ref ul, .int 0, .ref uc, .ref ue]))] [.ref a0, .int x]) (vp_Si (fun r => r = (-1))) 0 0 (fun _ => False) := by
  refine Met.ofW (cc := cX11_lies) (maxL := 2) (ret := (some .int)) (by decide) rfl ?_
  intro p e s m args below meth c s₁ B hml hv
  obtain ⟨rfl, hP, hK⟩ := hv
  have hx := B.exec
  have hb := B.bytes
  have hr := B.returns
  have hts := atoms_spec (ws := wsX11_lies) B.pre
  have hown : s.vm.findClass RX11 = some m.cls := findClass_of_methodNamed B.named
  have hlocks := B.notSynchronized
  have hl := lv_entry ([.ref a0, .int x]) (n := 2) (Nat.le_of_ble_eq_true rfl)
  rw [lg_entry_eq]
  generalize (lg_sl ([.ref a0, .int x]) ++ List.replicate (2 - (lg_sl ([.ref a0, .int x])).length) Slot.unset).toArray = ls at hl ⊢
  replace hl : lv_has ls 2 [(0, .ref a0), (1, .int x)] := hl
  refine lv_iload_n hx hb dX11_lies_0 rfl (lv_at hl 1 rfl) ?_
  refine lv_if_lt (tgt := 15) hx hb dX11_lies_1 (by decide) (fun c_1 => ?_) (fun c_1 => ?_)
  · refine lv_iconst (v := (-1)) hx hb dX11_lies_15 (by decide) ?_
    refine lv_goto (tgt := 28) hx hb dX11_lies_16 (by decide) ?_
    exact W.iret (v := (-1)) hx hb hr (fun t ht hW => ⟨(-1), rfl, rfl, ht⟩) (fun q hq => by cases hq) dX11_lies_28
  · refine lv_iload_n hx hb dX11_lies_4 rfl (lv_at hl 1 rfl) ?_
    refine lv_aload_n hx hb dX11_lies_5 rfl (lv_at hl 0 rfl) ?_
    refine va_get (D := D) (ci := 11) (v := .ref aU) (C := RX11) (T := TX11) (N := 10) hx hb hts iw_X11_lies_X11 hown hK hP 0 rfl rfl 5 (by decide) (hts (.fieldLink RX11 49 "SoldHouse" "routes" "LSoldHouse$Routes;") (List.mem_of_getElem? (i := 1) rfl)) (fun _ h9 => h9) rfl dX11_lies_6 ?_
    refine va_get (D := D) (ci := 7) (v := .int 0) (C := RX7) (T := TX7) (N := 5) hx hb hts iw_X11_lies_X7 hown hK hP 1 rfl rfl 2 (by decide) (hts (.fieldLink RX11 187 "SoldHouse$Routes" "lying" "I") (List.mem_of_getElem? (i := 2) rfl)) (fun _ h9 => h9) rfl dX11_lies_9 ?_
    refine lv_icmp_lt (tgt := 19) hx hb dX11_lies_12 (by decide) (fun c_2 => ?_) (fun c_2 => ?_)
    · exact (zz_ab2 c_1 c_2 (by decide)).elim
    · refine lv_iconst (v := (-1)) hx hb dX11_lies_15 (by decide) ?_
      refine lv_goto (tgt := 28) hx hb dX11_lies_16 (by decide) ?_
      exact W.iret (v := (-1)) hx hb hr (fun t ht hW => ⟨(-1), rfl, rfl, ht⟩) (fun q hq => by cases hq) dX11_lies_28
set_option maxHeartbeats 4000000 in
set_option maxRecDepth 100000 in
theorem c_seen (l : Launch) (D : va_G) (cI : ClassId) (cB : ClassId) (cL : ClassId) (cZ : ClassId) (a0 : Nat) (aP : Nat) (aD : Nat) (aT : Nat) (aR : Nat) (aF : Nat) (aU : Nat) (aH : Nat) (aM : Nat) (aW : Nat) (aN : Nat) (pz : Nat → Nat) (su : Nat) (x : Int32) (y : Int32) (z : Int32) : Met l yX11_seen wsX11_seen ({ frames := 1, cells := 0, slots := 0, locals := 21 }) (xr D [(cI, .int), (cB, .byte), (cL, .long), (cZ, .boolean)] [(a0, .inr (11, [.ref aP, .ref aD, .ref aT, .ref aR, .ref aF, .ref aU, .ref aH, .ref aM, .ref aW, .ref aN])), (aP, .inr (5, PF pz su))] [.ref a0, .int x, .int y, .int z]) (vp_Si (fun r => r = (-1))) 0 0 (fun _ => False) := by
  refine Met.ofW (cc := cX11_seen) (maxL := 4) (ret := (some .int)) (by decide) rfl ?_
  intro p e s m args below meth c s₁ B hml hv
  obtain ⟨rfl, hP, hK⟩ := hv
  have hx := B.exec
  have hb := B.bytes
  have hr := B.returns
  have hts := atoms_spec (ws := wsX11_seen) B.pre
  have hown : s.vm.findClass RX11 = some m.cls := findClass_of_methodNamed B.named
  have hlocks := B.notSynchronized
  have hl := lv_entry ([.ref a0, .int x, .int y, .int z]) (n := 4) (Nat.le_of_ble_eq_true rfl)
  rw [lg_entry_eq]
  generalize (lg_sl ([.ref a0, .int x, .int y, .int z]) ++ List.replicate (4 - (lg_sl ([.ref a0, .int x, .int y, .int z])).length) Slot.unset).toArray = ls at hl ⊢
  replace hl : lv_has ls 4 [(0, .ref a0), (1, .int x), (2, .int y), (3, .int z)] := hl
  refine lv_aload_n hx hb dX11_seen_0 rfl (lv_at hl 0 rfl) ?_
  refine lv_iload_n hx hb dX11_seen_1 rfl (lv_at hl 2 rfl) ?_
  have hPc := hP.sub (ws' := [(a0, .inr (11, [.ref aP, .ref aD, .ref aT, .ref aR, .ref aF, .ref aU, .ref aH, .ref aM, .ref aW, .ref aN])), (aP, .inr (5, PF pz su))]) [0, 1] rfl
  refine vp_callSi (va_runV (As := [.int y]) (rest := []) ⟨hx, hb, hml, hown, hts⟩ (c_isRoom l D cI cB cL cZ a0 aP aD aT aR aF aU aH aM aW aN pz su y) (cwV 1 hts gX11_seen_X11_isRoom rfl rfl rfl (by decide +kernel) ⟨Nat.le_of_ble_eq_true rfl, Nat.le_of_ble_eq_true rfl⟩) ⟨xr_blind, va_recv hK hPc (ci := 11) (q0 := 0) rfl rfl, fun U hU hW => xr_mk hU hW hPc hK⟩ rfl rfl hl.1 rfl (lv_room (Nat.le_of_ble_eq_true rfl)) dX11_seen_2 ⟨Nat.le_of_ble_eq_true rfl, Nat.le_of_ble_eq_true rfl⟩).run (fun r_1 hr_1 => ?_)
  clear hPc
  subst hr_1
  refine lv_if_eq (tgt := 15) hx hb dX11_seen_5 (by decide) (fun _ => ?_) (fun c_2 => absurd (by decide) c_2)
  refine lv_iconst (v := (-1)) hx hb dX11_seen_15 (by decide) ?_
  exact W.iret (v := (-1)) hx hb hr (fun t ht hW => ⟨(-1), rfl, rfl, ht⟩) (fun q hq => by cases hq) dX11_seen_16
set_option maxHeartbeats 4000000 in
set_option maxRecDepth 100000 in
theorem c_takeBack (l : Launch) (D : va_G) (cI : ClassId) (cB : ClassId) (cL : ClassId) (cZ : ClassId) (a0 : Nat) (aF : Nat) (n3 : Nat) (n4 : Nat) (n5 : Nat) (n6 : Nat) (n7 : Nat) (n8 : Nat) (n9 : Nat) (x : Int32) : Met l yX4_takeBack wsX4_takeBack ({ frames := 0, cells := 0, slots := 0, locals := 0 }) (xr D [(cI, .int), (cB, .byte), (cL, .long), (cZ, .boolean)] [(a0, .inr (4, [.ref aF, .int 0, .int 0, .ref n3, .ref n4, .ref n5, .ref n6, .ref n7, .ref n8, .ref n9]))] [.ref a0, .int x]) (vp_Si (fun r => r = 0)) 0 0 (fun _ => False) := by
  refine Met.ofW (cc := cX4_takeBack) (maxL := 2) (ret := (some .boolean)) (by decide) rfl ?_
  intro p e s m args below meth c s₁ B hml hv
  obtain ⟨rfl, hP, hK⟩ := hv
  have hx := B.exec
  have hb := B.bytes
  have hr := B.returns
  have hts := atoms_spec (ws := wsX4_takeBack) B.pre
  have hown : s.vm.findClass RX4 = some m.cls := findClass_of_methodNamed B.named
  have hlocks := B.notSynchronized
  have hl := lv_entry ([.ref a0, .int x]) (n := 2) (Nat.le_of_ble_eq_true rfl)
  rw [lg_entry_eq]
  generalize (lg_sl ([.ref a0, .int x]) ++ List.replicate (2 - (lg_sl ([.ref a0, .int x])).length) Slot.unset).toArray = ls at hl ⊢
  replace hl : lv_has ls 2 [(0, .ref a0), (1, .int x)] := hl
  refine lv_iload_n hx hb dX4_takeBack_0 rfl (lv_at hl 1 rfl) ?_
  refine lv_if_lt (tgt := 22) hx hb dX4_takeBack_1 (by decide) (fun c_1 => ?_) (fun c_1 => ?_)
  · refine lv_iconst (v := 0) hx hb dX4_takeBack_22 (by decide) ?_
    exact W.zret (v := 0) (ty := .boolean) hx hb hr (by decide) (fun t ht hW => ⟨0, rfl, rfl, ht⟩) (fun q hq => by cases hq) dX4_takeBack_23
  · refine lv_iload_n hx hb dX4_takeBack_4 rfl (lv_at hl 1 rfl) ?_
    refine lv_aload_n hx hb dX4_takeBack_5 rfl (lv_at hl 0 rfl) ?_
    refine va_get (D := D) (ci := 4) (v := .int 0) (C := RX4) (T := TX4) (N := 10) hx hb hts iw_X4_takeBack_X4 hown hK hP 0 rfl rfl 1 (by decide) (hts (.fieldLink RX4 37 "SoldHouse$Night" "count" "I") (List.mem_of_getElem? (i := 1) rfl)) (fun _ h9 => h9) rfl dX4_takeBack_6 ?_
    refine lv_icmp_ge (tgt := 22) hx hb dX4_takeBack_9 (by decide) (fun c_2 => ?_) (fun c_2 => ?_)
    · refine lv_iconst (v := 0) hx hb dX4_takeBack_22 (by decide) ?_
      exact W.zret (v := 0) (ty := .boolean) hx hb hr (by decide) (fun t ht hW => ⟨0, rfl, rfl, ht⟩) (fun q hq => by cases hq) dX4_takeBack_23
    · exact (zz_ab2 c_1 (Int32.not_le.mp c_2) (by decide)).elim
set_option maxHeartbeats 4000000 in
set_option maxRecDepth 100000 in
theorem c_untell (l : Launch) (D : va_G) (cI : ClassId) (cB : ClassId) (cL : ClassId) (cZ : ClassId) (a0 : Nat) (aP : Nat) (aD : Nat) (aT : Nat) (aR : Nat) (aF : Nat) (aU : Nat) (aH : Nat) (aM : Nat) (aW : Nat) (aN : Nat) (aF1 : Nat) (n3 : Nat) (n4 : Nat) (n5 : Nat) (n6 : Nat) (n7 : Nat) (n8 : Nat) (n9 : Nat) (x : Int32) : Met l yX11_untell wsX11_untell ({ frames := 1, cells := 0, slots := 0, locals := 21 }) (xr D [(cI, .int), (cB, .byte), (cL, .long), (cZ, .boolean)] [(a0, .inr (11, [.ref aP, .ref aD, .ref aT, .ref aR, .ref aF, .ref aU, .ref aH, .ref aM, .ref aW, .ref aN])), (aN, .inr (4, [.ref aF1, .int 0, .int 0, .ref n3, .ref n4, .ref n5, .ref n6, .ref n7, .ref n8, .ref n9]))] [.ref a0, .int x]) (vp_Si (fun r => r = 0)) 0 0 (fun _ => False) := by
  refine Met.ofW (cc := cX11_untell) (maxL := 2) (ret := (some .boolean)) (by decide) rfl ?_
  intro p e s m args below meth c s₁ B hml hv
  obtain ⟨rfl, hP, hK⟩ := hv
  have hx := B.exec
  have hb := B.bytes
  have hr := B.returns
  have hts := atoms_spec (ws := wsX11_untell) B.pre
  have hown : s.vm.findClass RX11 = some m.cls := findClass_of_methodNamed B.named
  have hlocks := B.notSynchronized
  have hl := lv_entry ([.ref a0, .int x]) (n := 2) (Nat.le_of_ble_eq_true rfl)
  rw [lg_entry_eq]
  generalize (lg_sl ([.ref a0, .int x]) ++ List.replicate (2 - (lg_sl ([.ref a0, .int x])).length) Slot.unset).toArray = ls at hl ⊢
  replace hl : lv_has ls 2 [(0, .ref a0), (1, .int x)] := hl
  refine lv_aload_n hx hb dX11_untell_0 rfl (lv_at hl 0 rfl) ?_
  refine va_get (D := D) (ci := 11) (v := .ref aN) (C := RX11) (T := TX11) (N := 10) hx hb hts iw_X11_untell_X11 hown hK hP 0 rfl rfl 9 (by decide) (hts (.fieldLink RX11 79 "SoldHouse" "night" "LSoldHouse$Night;") (List.mem_of_getElem? (i := 1) rfl)) (fun _ h9 => h9) rfl dX11_untell_1 ?_
  refine lv_iload_n hx hb dX11_untell_4 rfl (lv_at hl 1 rfl) ?_
  have hPc := hP.sub (ws' := [(aN, .inr (4, [.ref aF1, .int 0, .int 0, .ref n3, .ref n4, .ref n5, .ref n6, .ref n7, .ref n8, .ref n9]))]) [1] rfl
  refine vp_callSi (va_runV (As := [.int x]) (rest := []) ⟨hx, hb, hml, hown, hts⟩ (c_takeBack l D cI cB cL cZ aN aF1 n3 n4 n5 n6 n7 n8 n9 x) (cwV 1 hts gX11_untell_X4_takeBack rfl rfl rfl (by decide +kernel) ⟨Nat.le_of_ble_eq_true rfl, Nat.le_of_ble_eq_true rfl⟩) ⟨xr_blind, va_recv hK hPc (ci := 4) (q0 := 0) rfl rfl, fun U hU hW => xr_mk hU hW hPc hK⟩ rfl rfl hl.1 rfl (lv_room (Nat.le_of_ble_eq_true rfl)) dX11_untell_5 ⟨Nat.le_of_ble_eq_true rfl, Nat.le_of_ble_eq_true rfl⟩).run (fun r_1 hr_1 => ?_)
  clear hPc
  subst hr_1
  exact W.zret (v := 0) (ty := .boolean) hx hb hr (by decide) (fun t ht hW => ⟨0, rfl, rfl, ht⟩) (fun q hq => by cases hq) dX11_untell_8
set_option maxHeartbeats 4000000 in
set_option maxRecDepth 100000 in
theorem c_takeFromBox (l : Launch) (D : va_G) (cI : ClassId) (cB : ClassId) (cL : ClassId) (cZ : ClassId) (a0 : Nat) (aF : Nat) (mo : Nat) (ma : Nat) (mk : Nat) (mb : Nat) (mf : Nat) (ff : Nat → Int32) (x : Int32) (hf_ff_0 : ff 0 = 0) (hf_ff_1 : ff 1 = 0) (hf_ff_2 : ff 2 = 0) : Met l yX3_takeFromBox wsX3_takeFromBox ({ frames := 0, cells := 0, slots := 0, locals := 0 }) (xr D [(cI, .int), (cB, .byte), (cL, .long), (cZ, .boolean)] [(a0, .inr (3, [.ref aF, .ref mo, .ref ma, .ref mk, .int 0, .int 0, .int 0, .ref mb, .ref mf])), (mf, .inl (cZ, 3, .inl ff))] [.ref a0, .int x]) (vp_Si (fun r => r = (-1))) 0 0 (fun _ => False) := by
  refine Met.ofW (cc := cX3_takeFromBox) (maxL := 2) (ret := (some .int)) (by decide) rfl ?_
  intro p e s m args below meth c s₁ B hml hv
  obtain ⟨rfl, hP, hK⟩ := hv
  have hx := B.exec
  have hb := B.bytes
  have hr := B.returns
  have hts := atoms_spec (ws := wsX3_takeFromBox) B.pre
  have hown : s.vm.findClass RX3 = some m.cls := findClass_of_methodNamed B.named
  have hlocks := B.notSynchronized
  have hl := lv_entry ([.ref a0, .int x]) (n := 2) (Nat.le_of_ble_eq_true rfl)
  rw [lg_entry_eq]
  generalize (lg_sl ([.ref a0, .int x]) ++ List.replicate (2 - (lg_sl ([.ref a0, .int x])).length) Slot.unset).toArray = ls at hl ⊢
  replace hl : lv_has ls 2 [(0, .ref a0), (1, .int x)] := hl
  refine lv_iload_n hx hb dX3_takeFromBox_0 rfl (lv_at hl 1 rfl) ?_
  refine lv_if_lt (tgt := 18) hx hb dX3_takeFromBox_1 (by decide) (fun c_1 => ?_) (fun c_1 => ?_)
  · refine lv_iconst (v := (-1)) hx hb dX3_takeFromBox_18 (by decide) ?_
    exact W.iret (v := (-1)) hx hb hr (fun t ht hW => ⟨(-1), rfl, rfl, ht⟩) (fun q hq => by cases hq) dX3_takeFromBox_19
  · refine lv_iload_n hx hb dX3_takeFromBox_4 rfl (lv_at hl 1 rfl) ?_
    refine lv_iconst (v := 3) hx hb dX3_takeFromBox_5 (by decide) ?_
    refine lv_icmp_ge (tgt := 18) hx hb dX3_takeFromBox_6 (by decide) (fun c_2 => ?_) (fun c_2 => ?_)
    · refine lv_iconst (v := (-1)) hx hb dX3_takeFromBox_18 (by decide) ?_
      exact W.iret (v := (-1)) hx hb hr (fun t ht hW => ⟨(-1), rfl, rfl, ht⟩) (fun q hq => by cases hq) dX3_takeFromBox_19
    · refine lv_aload_n hx hb dX3_takeFromBox_9 rfl (lv_at hl 0 rfl) ?_
      refine va_get (D := D) (ci := 3) (v := .ref mf) (C := RX3) (T := TX3) (N := 9) hx hb hts iw_X3_takeFromBox_X3 hown hK hP 0 rfl rfl 8 (by decide) (hts (.fieldLink RX3 26 "SoldHouse$Memory" "full" "[Z") (List.mem_of_getElem? (i := 1) rfl)) (fun _ h9 => h9) rfl dX3_takeFromBox_10 ?_
      refine lv_iload_n hx hb dX3_takeFromBox_13 rfl (lv_at hl 1 rfl) ?_
      obtain ⟨j_3, hj_3, rfl⟩ := nI_of2 (M := 2) (n := 2) rfl c_1 (zz_ltle (Int32.not_le.mp c_2) (by decide))
      rcases (show j_3 = 0 ∨ j_3 = 1 ∨ j_3 = 2 by omega) with rfl | rfl | rfl
      · refine va_zald hx hb hK hP 1 3 rfl rfl (show vp_in (nI 0) 3 from (by decide : ¬ ((nI 0) < (0 : Int32) ∨ 3 ≤ Int32.toNatClampNeg (nI 0)))) dX3_takeFromBox_14 ?_
        refine lv_topi (fun y_4 ey_4 => ?_)
        obtain rfl : y_4 = 0 := ey_4.trans hf_ff_0
        refine lv_if_ne (tgt := 20) hx hb dX3_takeFromBox_15 (by decide) (fun c_5 => absurd (by decide) c_5) (fun _ => ?_)
        refine lv_iconst (v := (-1)) hx hb dX3_takeFromBox_18 (by decide) ?_
        exact W.iret (v := (-1)) hx hb hr (fun t ht hW => ⟨(-1), rfl, rfl, ht⟩) (fun q hq => by cases hq) dX3_takeFromBox_19
      · refine va_zald hx hb hK hP 1 3 rfl rfl (show vp_in (nI 1) 3 from (by decide : ¬ ((nI 1) < (0 : Int32) ∨ 3 ≤ Int32.toNatClampNeg (nI 1)))) dX3_takeFromBox_14 ?_
        refine lv_topi (fun y_6 ey_6 => ?_)
        obtain rfl : y_6 = 0 := ey_6.trans hf_ff_1
        refine lv_if_ne (tgt := 20) hx hb dX3_takeFromBox_15 (by decide) (fun c_7 => absurd (by decide) c_7) (fun _ => ?_)
        refine lv_iconst (v := (-1)) hx hb dX3_takeFromBox_18 (by decide) ?_
        exact W.iret (v := (-1)) hx hb hr (fun t ht hW => ⟨(-1), rfl, rfl, ht⟩) (fun q hq => by cases hq) dX3_takeFromBox_19
      · refine va_zald hx hb hK hP 1 3 rfl rfl (show vp_in (nI 2) 3 from (by decide : ¬ ((nI 2) < (0 : Int32) ∨ 3 ≤ Int32.toNatClampNeg (nI 2)))) dX3_takeFromBox_14 ?_
        refine lv_topi (fun y_8 ey_8 => ?_)
        obtain rfl : y_8 = 0 := ey_8.trans hf_ff_2
        refine lv_if_ne (tgt := 20) hx hb dX3_takeFromBox_15 (by decide) (fun c_9 => absurd (by decide) c_9) (fun _ => ?_)
        refine lv_iconst (v := (-1)) hx hb dX3_takeFromBox_18 (by decide) ?_
        exact W.iret (v := (-1)) hx hb hr (fun t ht hW => ⟨(-1), rfl, rfl, ht⟩) (fun q hq => by cases hq) dX3_takeFromBox_19
set_option maxHeartbeats 4000000 in
set_option maxRecDepth 100000 in
theorem c_back (l : Launch) (D : va_G) (cI : ClassId) (cB : ClassId) (cL : ClassId) (cZ : ClassId) (a0 : Nat) (aP : Nat) (aD : Nat) (aT : Nat) (aR : Nat) (aF : Nat) (aU : Nat) (aH : Nat) (aM : Nat) (aW : Nat) (aN : Nat) (aF1 : Nat) (mo : Nat) (ma : Nat) (mk : Nat) (mb : Nat) (mf : Nat) (ff : Nat → Int32) (x : Int32) (hf_ff_0 : ff 0 = 0) (hf_ff_1 : ff 1 = 0) (hf_ff_2 : ff 2 = 0) : Met l yX11_back wsX11_back ({ frames := 1, cells := 0, slots := 0, locals := 21 }) (xr D [(cI, .int), (cB, .byte), (cL, .long), (cZ, .boolean)] [(a0, .inr (11, [.ref aP, .ref aD, .ref aT, .ref aR, .ref aF, .ref aU, .ref aH, .ref aM, .ref aW, .ref aN])), (aM, .inr (3, [.ref aF1, .ref mo, .ref ma, .ref mk, .int 0, .int 0, .int 0, .ref mb, .ref mf])), (mf, .inl (cZ, 3, .inl ff))] [.ref a0, .int x]) (vp_Si (fun r => r = (-1))) 0 0 (fun _ => False) := by
  refine Met.ofW (cc := cX11_back) (maxL := 2) (ret := (some .int)) (by decide) rfl ?_
  intro p e s m args below meth c s₁ B hml hv
  obtain ⟨rfl, hP, hK⟩ := hv
  have hx := B.exec
  have hb := B.bytes
  have hr := B.returns
  have hts := atoms_spec (ws := wsX11_back) B.pre
  have hown : s.vm.findClass RX11 = some m.cls := findClass_of_methodNamed B.named
  have hlocks := B.notSynchronized
  have hl := lv_entry ([.ref a0, .int x]) (n := 2) (Nat.le_of_ble_eq_true rfl)
  rw [lg_entry_eq]
  generalize (lg_sl ([.ref a0, .int x]) ++ List.replicate (2 - (lg_sl ([.ref a0, .int x])).length) Slot.unset).toArray = ls at hl ⊢
  replace hl : lv_has ls 2 [(0, .ref a0), (1, .int x)] := hl
  refine lv_aload_n hx hb dX11_back_0 rfl (lv_at hl 0 rfl) ?_
  refine va_get (D := D) (ci := 11) (v := .ref aM) (C := RX11) (T := TX11) (N := 10) hx hb hts iw_X11_back_X11 hown hK hP 0 rfl rfl 7 (by decide) (hts (.fieldLink RX11 63 "SoldHouse" "memory" "LSoldHouse$Memory;") (List.mem_of_getElem? (i := 1) rfl)) (fun _ h9 => h9) rfl dX11_back_1 ?_
  refine lv_iload_n hx hb dX11_back_4 rfl (lv_at hl 1 rfl) ?_
  have hPc := hP.sub (ws' := [(aM, .inr (3, [.ref aF1, .ref mo, .ref ma, .ref mk, .int 0, .int 0, .int 0, .ref mb, .ref mf])), (mf, .inl (cZ, 3, .inl ff))]) [1, 2] rfl
  refine vp_callSi (va_runV (As := [.int x]) (rest := []) ⟨hx, hb, hml, hown, hts⟩ (c_takeFromBox l D cI cB cL cZ aM aF1 mo ma mk mb mf ff x hf_ff_0 hf_ff_1 hf_ff_2) (cwV 1 hts gX11_back_X3_takeFromBox rfl rfl rfl (by decide +kernel) ⟨Nat.le_of_ble_eq_true rfl, Nat.le_of_ble_eq_true rfl⟩) ⟨xr_blind, va_recv hK hPc (ci := 3) (q0 := 0) rfl rfl, fun U hU hW => xr_mk hU hW hPc hK⟩ rfl rfl hl.1 rfl (lv_room (Nat.le_of_ble_eq_true rfl)) dX11_back_5 ⟨Nat.le_of_ble_eq_true rfl, Nat.le_of_ble_eq_true rfl⟩).run (fun r_1 hr_1 => ?_)
  clear hPc
  subst hr_1
  exact W.iret (v := (-1)) hx hb hr (fun t ht hW => ⟨(-1), rfl, rfl, ht⟩) (fun q hq => by cases hq) dX11_back_8
set_option maxHeartbeats 4000000 in
set_option maxRecDepth 100000 in
theorem c_about (l : Launch) (D : va_G) (cI : ClassId) (cB : ClassId) (cL : ClassId) (cZ : ClassId) (a0 : Nat) (aP : Nat) (aD : Nat) (aT : Nat) (aR : Nat) (aF : Nat) (aU : Nat) (aH : Nat) (aM : Nat) (aW : Nat) (aN : Nat) (aF1 : Nat) (aF2 : Nat) (aF3 : Nat) (pz : Nat → Nat) (su : Nat) (mo : Nat) (ma : Nat) (mk : Nat) (mb : Nat) (mf : Nat) (fn : Nat → Int32) (n3 : Nat) (n4 : Nat) (n5 : Nat) (n6 : Nat) (n7 : Nat) (n8 : Nat) (n9 : Nat) (tb : Nat) (s0 : Nat) (s1 : Nat) (s2 : Nat) (ul : Nat) (uc : Nat) (ue : Nat) (x : Int32) (hf_fn_30 : fn 30 = 0) (hf_fn_31 : fn 31 = 0) : Met l yX11_about wsX11_about ({ frames := 0, cells := 0, slots := 0, locals := 0 }) (xr D [(cI, .int), (cB, .byte), (cL, .long), (cZ, .boolean)] [(a0, .inr (11, [.ref aP, .ref aD, .ref aT, .ref aR, .ref aF, .ref aU, .ref aH, .ref aM, .ref aW, .ref aN])), (aP, .inr (5, PF pz su)), (aM, .inr (3, [.ref aF1, .ref mo, .ref ma, .ref mk, .int 0, .int 0, .int 0, .ref mb, .ref mf])), (mo, .inl (cI, 32, .inl fn)), (aN, .inr (4, [.ref aF2, .int 0, .int 0, .ref n3, .ref n4, .ref n5, .ref n6, .ref n7, .ref n8, .ref n9])), (aT, .inr (8, [.ref tb, .int 0])), (su, .inr (1, [.ref s0, .ref s1, .ref s2, .int 0, .int 0, .int 0])), (aU, .inr (7, [.ref aF3, .ref ul, .int 0, .ref uc, .ref ue]))] [.ref a0, .int x]) (vp_Si (fun r => r = sp_rng 11 x)) 0 0 (fun _ => False) := by
  refine Met.ofW (cc := cX11_about) (maxL := 2) (ret := (some .int)) (by decide) rfl ?_
  intro p e s m args below meth c s₁ B hml hv
  obtain ⟨rfl, hP, hK⟩ := hv
  have hx := B.exec
  have hb := B.bytes
  have hr := B.returns
  have hts := atoms_spec (ws := wsX11_about) B.pre
  have hown : s.vm.findClass RX11 = some m.cls := findClass_of_methodNamed B.named
  have hlocks := B.notSynchronized
  have hl := lv_entry ([.ref a0, .int x]) (n := 2) (Nat.le_of_ble_eq_true rfl)
  rw [lg_entry_eq]
  generalize (lg_sl ([.ref a0, .int x]) ++ List.replicate (2 - (lg_sl ([.ref a0, .int x])).length) Slot.unset).toArray = ls at hl ⊢
  replace hl : lv_has ls 2 [(0, .ref a0), (1, .int x)] := hl
  refine lv_iload_n hx hb dX11_about_0 rfl (lv_at hl 1 rfl) ?_
  by_cases c_1 : x < 0
  · refine lv_tableOut (tgt := 169) hx hb dX11_about_1 (Or.inl (Int32.lt_iff_toInt_lt.mp c_1)) (by decide) ?_
    refine lv_iconst (v := (-1)) hx hb dX11_about_169 (by decide) ?_
    exact W.iret (v := (-1)) hx hb hr (fun t ht hW => ⟨(-1), rfl, (sp_rng_lt c_1).symm, ht⟩) (fun q hq => by cases hq) dX11_about_170
  by_cases c_2 : 11 < x
  · refine lv_tableOut (tgt := 169) hx hb dX11_about_1 (Or.inr (Int32.lt_iff_toInt_lt.mp c_2)) (by decide) ?_
    refine lv_iconst (v := (-1)) hx hb dX11_about_169 (by decide) ?_
    exact W.iret (v := (-1)) hx hb hr (fun t ht hW => ⟨(-1), rfl, (sp_rng_gt c_1 c_2).symm, ht⟩) (fun q hq => by cases hq) dX11_about_170
  obtain ⟨j_3, hj_3, rfl⟩ := nI_of2 (M := 11) (n := 11) rfl c_1 (Int32.not_lt.mp c_2)
  rcases (show j_3 = 0 ∨ j_3 = 1 ∨ j_3 = 2 ∨ j_3 = 3 ∨ j_3 = 4 ∨ j_3 = 5 ∨ j_3 = 6 ∨ j_3 = 7 ∨ j_3 = 8 ∨ j_3 = 9 ∨ j_3 = 10 ∨ j_3 = 11 by omega) with rfl | rfl | rfl | rfl | rfl | rfl | rfl | rfl | rfl | rfl | rfl | rfl
  · refine lv_tableIn (off := 63) (tgt := 64) hx hb dX11_about_1 (by decide) (by decide) (by decide) (by decide) ?_
    refine lv_aload_n hx hb dX11_about_64 rfl (lv_at hl 0 rfl) ?_
    refine va_get (D := D) (ci := 11) (v := .ref aP) (C := RX11) (T := TX11) (N := 10) hx hb hts iw_X11_about_X11 hown hK hP 0 rfl rfl 0 (by decide) (hts (.fieldLink RX11 10 "SoldHouse" "plan" "LSoldHouse$Plan;") (List.mem_of_getElem? (i := 1) rfl)) (fun _ h9 => h9) rfl dX11_about_65 ?_
    refine va_get (D := D) (ci := 5) (v := .int 0) (C := RX5) (T := TX5) (N := 16) hx hb hts iw_X11_about_X5 hown hK hP 1 rfl rfl 0 (by decide) (hts (.fieldLink RX11 101 "SoldHouse$Plan" "rooms" "I") (List.mem_of_getElem? (i := 2) rfl)) (fun _ h9 => h9) rfl dX11_about_68 ?_
    exact W.iret (v := 0) hx hb hr (fun t ht hW => ⟨0, rfl, (by decide), ht⟩) (fun q hq => by cases hq) dX11_about_71
  · refine lv_tableIn (off := 71) (tgt := 72) hx hb dX11_about_1 (by decide) (by decide) (by decide) (by decide) ?_
    refine lv_aload_n hx hb dX11_about_72 rfl (lv_at hl 0 rfl) ?_
    refine va_get (D := D) (ci := 11) (v := .ref aP) (C := RX11) (T := TX11) (N := 10) hx hb hts iw_X11_about_X11 hown hK hP 0 rfl rfl 0 (by decide) (hts (.fieldLink RX11 10 "SoldHouse" "plan" "LSoldHouse$Plan;") (List.mem_of_getElem? (i := 1) rfl)) (fun _ h9 => h9) rfl dX11_about_73 ?_
    refine va_get (D := D) (ci := 5) (v := .int 0) (C := RX5) (T := TX5) (N := 16) hx hb hts iw_X11_about_X5 hown hK hP 1 rfl rfl 3 (by decide) (hts (.fieldLink RX11 309 "SoldHouse$Plan" "doors" "I") (List.mem_of_getElem? (i := 3) rfl)) (fun _ h9 => h9) rfl dX11_about_76 ?_
    exact W.iret (v := 0) hx hb hr (fun t ht hW => ⟨0, rfl, (by decide), ht⟩) (fun q hq => by cases hq) dX11_about_79
  · refine lv_tableIn (off := 79) (tgt := 80) hx hb dX11_about_1 (by decide) (by decide) (by decide) (by decide) ?_
    refine lv_aload_n hx hb dX11_about_80 rfl (lv_at hl 0 rfl) ?_
    refine va_get (D := D) (ci := 11) (v := .ref aP) (C := RX11) (T := TX11) (N := 10) hx hb hts iw_X11_about_X11 hown hK hP 0 rfl rfl 0 (by decide) (hts (.fieldLink RX11 10 "SoldHouse" "plan" "LSoldHouse$Plan;") (List.mem_of_getElem? (i := 1) rfl)) (fun _ h9 => h9) rfl dX11_about_81 ?_
    refine va_get (D := D) (ci := 5) (v := .int 0) (C := RX5) (T := TX5) (N := 16) hx hb hts iw_X11_about_X5 hown hK hP 1 rfl rfl 6 (by decide) (hts (.fieldLink RX11 253 "SoldHouse$Plan" "things" "I") (List.mem_of_getElem? (i := 4) rfl)) (fun _ h9 => h9) rfl dX11_about_84 ?_
    exact W.iret (v := 0) hx hb hr (fun t ht hW => ⟨0, rfl, (by decide), ht⟩) (fun q hq => by cases hq) dX11_about_87
  · refine lv_tableIn (off := 87) (tgt := 88) hx hb dX11_about_1 (by decide) (by decide) (by decide) (by decide) ?_
    refine lv_aload_n hx hb dX11_about_88 rfl (lv_at hl 0 rfl) ?_
    refine va_get (D := D) (ci := 11) (v := .ref aM) (C := RX11) (T := TX11) (N := 10) hx hb hts iw_X11_about_X11 hown hK hP 0 rfl rfl 7 (by decide) (hts (.fieldLink RX11 63 "SoldHouse" "memory" "LSoldHouse$Memory;") (List.mem_of_getElem? (i := 5) rfl)) (fun _ h9 => h9) rfl dX11_about_89 ?_
    refine va_get (D := D) (ci := 3) (v := .ref mo) (C := RX3) (T := TX3) (N := 9) hx hb hts iw_X11_about_X3 hown hK hP 2 rfl rfl 1 (by decide) (hts (.fieldLink RX11 128 "SoldHouse$Memory" "now" "[I") (List.mem_of_getElem? (i := 6) rfl)) (fun _ h9 => h9) rfl dX11_about_92 ?_
    refine lv_bipush (v := 30) hx hb dX11_about_95 (by decide) ?_
    refine va_iald hx hb hK hP 3 0 rfl rfl (show vp_in 30 32 from (by decide : ¬ ((30 : Int32) < 0 ∨ 32 ≤ Int32.toNatClampNeg 30))) dX11_about_97 ?_
    refine lv_topi (fun y_4 ey_4 => ?_)
    obtain rfl : y_4 = 0 := ey_4.trans hf_fn_30
    exact W.iret (v := 0) hx hb hr (fun t ht hW => ⟨0, rfl, (by decide), ht⟩) (fun q hq => by cases hq) dX11_about_98
  · refine lv_tableIn (off := 98) (tgt := 99) hx hb dX11_about_1 (by decide) (by decide) (by decide) (by decide) ?_
    refine lv_aload_n hx hb dX11_about_99 rfl (lv_at hl 0 rfl) ?_
    refine va_get (D := D) (ci := 11) (v := .ref aM) (C := RX11) (T := TX11) (N := 10) hx hb hts iw_X11_about_X11 hown hK hP 0 rfl rfl 7 (by decide) (hts (.fieldLink RX11 63 "SoldHouse" "memory" "LSoldHouse$Memory;") (List.mem_of_getElem? (i := 5) rfl)) (fun _ h9 => h9) rfl dX11_about_100 ?_
    refine va_get (D := D) (ci := 3) (v := .ref mo) (C := RX3) (T := TX3) (N := 9) hx hb hts iw_X11_about_X3 hown hK hP 2 rfl rfl 1 (by decide) (hts (.fieldLink RX11 128 "SoldHouse$Memory" "now" "[I") (List.mem_of_getElem? (i := 6) rfl)) (fun _ h9 => h9) rfl dX11_about_103 ?_
    refine lv_bipush (v := 31) hx hb dX11_about_106 (by decide) ?_
    refine va_iald hx hb hK hP 3 0 rfl rfl (show vp_in 31 32 from (by decide : ¬ ((31 : Int32) < 0 ∨ 32 ≤ Int32.toNatClampNeg 31))) dX11_about_108 ?_
    refine lv_topi (fun y_5 ey_5 => ?_)
    obtain rfl : y_5 = 0 := ey_5.trans hf_fn_31
    exact W.iret (v := 0) hx hb hr (fun t ht hW => ⟨0, rfl, (by decide), ht⟩) (fun q hq => by cases hq) dX11_about_109
  · refine lv_tableIn (off := 109) (tgt := 110) hx hb dX11_about_1 (by decide) (by decide) (by decide) (by decide) ?_
    refine lv_aload_n hx hb dX11_about_110 rfl (lv_at hl 0 rfl) ?_
    refine va_get (D := D) (ci := 11) (v := .ref aM) (C := RX11) (T := TX11) (N := 10) hx hb hts iw_X11_about_X11 hown hK hP 0 rfl rfl 7 (by decide) (hts (.fieldLink RX11 63 "SoldHouse" "memory" "LSoldHouse$Memory;") (List.mem_of_getElem? (i := 5) rfl)) (fun _ h9 => h9) rfl dX11_about_111 ?_
    refine va_get (D := D) (ci := 3) (v := .int 0) (C := RX3) (T := TX3) (N := 9) hx hb hts iw_X11_about_X3 hown hK hP 2 rfl rfl 5 (by decide) (hts (.fieldLink RX11 312 "SoldHouse$Memory" "done" "I") (List.mem_of_getElem? (i := 7) rfl)) (fun _ h9 => h9) rfl dX11_about_114 ?_
    exact W.iret (v := 0) hx hb hr (fun t ht hW => ⟨0, rfl, (by decide), ht⟩) (fun q hq => by cases hq) dX11_about_117
  · refine lv_tableIn (off := 117) (tgt := 118) hx hb dX11_about_1 (by decide) (by decide) (by decide) (by decide) ?_
    refine lv_aload_n hx hb dX11_about_118 rfl (lv_at hl 0 rfl) ?_
    refine va_get (D := D) (ci := 11) (v := .ref aM) (C := RX11) (T := TX11) (N := 10) hx hb hts iw_X11_about_X11 hown hK hP 0 rfl rfl 7 (by decide) (hts (.fieldLink RX11 63 "SoldHouse" "memory" "LSoldHouse$Memory;") (List.mem_of_getElem? (i := 5) rfl)) (fun _ h9 => h9) rfl dX11_about_119 ?_
    refine va_get (D := D) (ci := 3) (v := .int 0) (C := RX3) (T := TX3) (N := 9) hx hb hts iw_X11_about_X3 hown hK hP 2 rfl rfl 6 (by decide) (hts (.fieldLink RX11 315 "SoldHouse$Memory" "undone" "I") (List.mem_of_getElem? (i := 8) rfl)) (fun _ h9 => h9) rfl dX11_about_122 ?_
    exact W.iret (v := 0) hx hb hr (fun t ht hW => ⟨0, rfl, (by decide), ht⟩) (fun q hq => by cases hq) dX11_about_125
  · refine lv_tableIn (off := 125) (tgt := 126) hx hb dX11_about_1 (by decide) (by decide) (by decide) (by decide) ?_
    refine lv_aload_n hx hb dX11_about_126 rfl (lv_at hl 0 rfl) ?_
    refine va_get (D := D) (ci := 11) (v := .ref aN) (C := RX11) (T := TX11) (N := 10) hx hb hts iw_X11_about_X11 hown hK hP 0 rfl rfl 9 (by decide) (hts (.fieldLink RX11 79 "SoldHouse" "night" "LSoldHouse$Night;") (List.mem_of_getElem? (i := 9) rfl)) (fun _ h9 => h9) rfl dX11_about_127 ?_
    refine va_get (D := D) (ci := 4) (v := .int 0) (C := RX4) (T := TX4) (N := 10) hx hb hts iw_X11_about_X4 hown hK hP 4 rfl rfl 1 (by decide) (hts (.fieldLink RX11 318 "SoldHouse$Night" "count" "I") (List.mem_of_getElem? (i := 10) rfl)) (fun _ h9 => h9) rfl dX11_about_130 ?_
    exact W.iret (v := 0) hx hb hr (fun t ht hW => ⟨0, rfl, (by decide), ht⟩) (fun q hq => by cases hq) dX11_about_133
  · refine lv_tableIn (off := 133) (tgt := 134) hx hb dX11_about_1 (by decide) (by decide) (by decide) (by decide) ?_
    refine lv_aload_n hx hb dX11_about_134 rfl (lv_at hl 0 rfl) ?_
    refine va_get (D := D) (ci := 11) (v := .ref aN) (C := RX11) (T := TX11) (N := 10) hx hb hts iw_X11_about_X11 hown hK hP 0 rfl rfl 9 (by decide) (hts (.fieldLink RX11 79 "SoldHouse" "night" "LSoldHouse$Night;") (List.mem_of_getElem? (i := 9) rfl)) (fun _ h9 => h9) rfl dX11_about_135 ?_
    refine va_get (D := D) (ci := 4) (v := .int 0) (C := RX4) (T := TX4) (N := 10) hx hb hts iw_X11_about_X4 hown hK hP 4 rfl rfl 2 (by decide) (hts (.fieldLink RX11 321 "SoldHouse$Night" "time" "I") (List.mem_of_getElem? (i := 11) rfl)) (fun _ h9 => h9) rfl dX11_about_138 ?_
    exact W.iret (v := 0) hx hb hr (fun t ht hW => ⟨0, rfl, (by decide), ht⟩) (fun q hq => by cases hq) dX11_about_141
  · refine lv_tableIn (off := 141) (tgt := 142) hx hb dX11_about_1 (by decide) (by decide) (by decide) (by decide) ?_
    refine lv_aload_n hx hb dX11_about_142 rfl (lv_at hl 0 rfl) ?_
    refine va_get (D := D) (ci := 11) (v := .ref aT) (C := RX11) (T := TX11) (N := 10) hx hb hts iw_X11_about_X11 hown hK hP 0 rfl rfl 2 (by decide) (hts (.fieldLink RX11 22 "SoldHouse" "tape" "LSoldHouse$Tape;") (List.mem_of_getElem? (i := 12) rfl)) (fun _ h9 => h9) rfl dX11_about_143 ?_
    refine va_get (D := D) (ci := 8) (v := .int 0) (C := RX8) (T := TX8) (N := 2) hx hb hts iw_X11_about_X8 hown hK hP 5 rfl rfl 1 (by decide) (hts (.fieldLink RX11 86 "SoldHouse$Tape" "size" "I") (List.mem_of_getElem? (i := 13) rfl)) (fun _ h9 => h9) rfl dX11_about_146 ?_
    exact W.iret (v := 0) hx hb hr (fun t ht hW => ⟨0, rfl, (by decide), ht⟩) (fun q hq => by cases hq) dX11_about_149
  · refine lv_tableIn (off := 149) (tgt := 150) hx hb dX11_about_1 (by decide) (by decide) (by decide) (by decide) ?_
    refine lv_aload_n hx hb dX11_about_150 rfl (lv_at hl 0 rfl) ?_
    refine va_get (D := D) (ci := 11) (v := .ref aP) (C := RX11) (T := TX11) (N := 10) hx hb hts iw_X11_about_X11 hown hK hP 0 rfl rfl 0 (by decide) (hts (.fieldLink RX11 10 "SoldHouse" "plan" "LSoldHouse$Plan;") (List.mem_of_getElem? (i := 1) rfl)) (fun _ h9 => h9) rfl dX11_about_151 ?_
    refine va_get (D := D) (ci := 5) (v := .ref su) (C := RX5) (T := TX5) (N := 16) hx hb hts iw_X11_about_X5 hown hK hP 1 rfl rfl 13 (by decide) (hts (.fieldLink RX11 324 "SoldHouse$Plan" "sure" "LSoldHouse$Formula;") (List.mem_of_getElem? (i := 14) rfl)) (fun _ h9 => h9) rfl dX11_about_154 ?_
    refine va_get (D := D) (ci := 1) (v := .int 0) (C := RX1) (T := TX1) (N := 6) hx hb hts iw_X11_about_X1 hown hK hP 6 rfl rfl 4 (by decide) (hts (.fieldLink RX11 328 "SoldHouse$Formula" "units" "I") (List.mem_of_getElem? (i := 15) rfl)) (fun _ h9 => h9) rfl dX11_about_157 ?_
    exact W.iret (v := 0) hx hb hr (fun t ht hW => ⟨0, rfl, (by decide), ht⟩) (fun q hq => by cases hq) dX11_about_160
  · refine lv_tableIn (off := 160) (tgt := 161) hx hb dX11_about_1 (by decide) (by decide) (by decide) (by decide) ?_
    refine lv_aload_n hx hb dX11_about_161 rfl (lv_at hl 0 rfl) ?_
    refine va_get (D := D) (ci := 11) (v := .ref aU) (C := RX11) (T := TX11) (N := 10) hx hb hts iw_X11_about_X11 hown hK hP 0 rfl rfl 5 (by decide) (hts (.fieldLink RX11 49 "SoldHouse" "routes" "LSoldHouse$Routes;") (List.mem_of_getElem? (i := 16) rfl)) (fun _ h9 => h9) rfl dX11_about_162 ?_
    refine va_get (D := D) (ci := 7) (v := .int 0) (C := RX7) (T := TX7) (N := 5) hx hb hts iw_X11_about_X7 hown hK hP 7 rfl rfl 2 (by decide) (hts (.fieldLink RX11 187 "SoldHouse$Routes" "lying" "I") (List.mem_of_getElem? (i := 17) rfl)) (fun _ h9 => h9) rfl dX11_about_165 ?_
    exact W.iret (v := 0) hx hb hr (fun t ht hW => ⟨0, rfl, (by decide), ht⟩) (fun q hq => by cases hq) dX11_about_168
