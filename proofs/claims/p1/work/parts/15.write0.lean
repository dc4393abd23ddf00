set_option maxHeartbeats 4000000 in
set_option maxRecDepth 100000 in
theorem c_put0 (l : Launch) (D : va_G) (cI : ClassId) (cB : ClassId) (cL : ClassId) (cZ : ClassId) (a0 : Nat) (tb : Nat) (fb : Nat → Int32) (x : Int32) (sz : Nat) : Met l yX8_put wsX8_put ({ frames := 0, cells := 0, slots := 0, locals := 0 }) (xp D [(cI, .int), (cB, .byte), (cL, .long), (cZ, .boolean)] [(a0, .inr (8, [.ref tb, .int 0])), (tb, .inl (cB, 1600, .inl fb))] sz [] [.ref a0, .int x]) (va_Qv (fun _ : Unit => True) (fun (_ : Unit) (t : State) => ∃ (g : Nat → Int32), xB D (va_A [(a0, .inr (8, [.ref tb, .int 0])), (tb, .inl (cB, 1600, .inl fb))] sz) [(a0, .inr (8, [.ref tb, .int 4])), (tb, .inl (cB, 1600, .inl g))] t) (va_A [(a0, .inr (8, [.ref tb, .int 0])), (tb, .inl (cB, 1600, .inl fb))] sz)) 0 0 (va_A [(a0, .inr (8, [.ref tb, .int 0])), (tb, .inl (cB, 1600, .inl fb))] sz) := by
  refine Met.ofW (cc := cX8_put) (maxL := 3) (ret := none) (by decide) rfl ?_
  intro p e s m args below meth c s₁ B hml hv
  obtain ⟨rfl, hsz, hP, hK, hD0, hNw⟩ := hv
  have hx := B.exec
  have hb := B.bytes
  have hr := B.returns
  have hts := atoms_spec (ws := wsX8_put) B.pre
  have hown : s.vm.findClass RX8 = some m.cls := findClass_of_methodNamed B.named
  have hlocks := B.notSynchronized
  subst hsz
  have hD := hD0.self (sz := s.heap.size)
  clear hD0
  generalize hAe : va_A [(a0, .inr (8, [.ref tb, .int 0])), (tb, .inl (cB, 1600, .inl fb))] s.heap.size = A at hD ⊢
  have hA : ∀ q : Nat, s.heap.size ≤ q → A q := fun q h => by rw [← hAe]; exact Or.inr h
  have hS : va_S A s.heap s.heap [] := va_S.rf
  clear hAe
  obtain ⟨H, hH⟩ : ∃ H : Heap, H = s.heap := ⟨_, rfl⟩
  obtain ⟨locs, hlocs⟩ : ∃ L : List Loc, L = [] := ⟨_, rfl⟩
  replace hP : va_P D classes [(a0, .inr (8, [.ref tb, .int 0])), (tb, .inl (cB, 1600, .inl fb))] H := by rw [hH]; exact hP
  replace hS : va_S A s.heap H locs := by rw [hH, hlocs]; exact hS
  rw [← hH, ← hlocs]
  clear hlocs hH
  have hl := lv_entry ([.ref a0, .int x]) (n := 3) (Nat.le_of_ble_eq_true rfl)
  rw [lg_entry_eq]
  generalize (lg_sl ([.ref a0, .int x]) ++ List.replicate (3 - (lg_sl ([.ref a0, .int x])).length) Slot.unset).toArray = ls at hl ⊢
  replace hl : lv_has ls 3 [(0, .ref a0), (1, .int x)] := hl
  refine lv_bipush (v := 24) hx hb dX8_put_0 (by decide) ?_
  refine lv_istore_n (lv' := [(2, .int 24), (0, .ref a0), (1, .int x)]) hx hb dX8_put_2 rfl hl (by decide) rfl (fun ls hl => ?_)
  refine lv_iload_n hx hb dX8_put_3 rfl (lv_at hl 0 rfl) ?_
  refine lv_if_lt (tgt := 46) hx hb dX8_put_4 (by decide) (fun c_1 => absurd c_1 (by decide)) (fun _ => ?_)
  refine lv_aload_n hx hb dX8_put_7 rfl (lv_at hl 1 rfl) ?_
  refine va_get (D := D) (ci := 8) (v := .int 0) (C := RX8) (T := TX8) (N := 2) hx hb hts iw_X8_put_X8 hown hK hP 0 rfl rfl 1 (by decide) (hts (.fieldLink RX8 15 "SoldHouse$Tape" "size" "I") (List.mem_of_getElem? (i := 1) rfl)) (fun _ h9 => h9) rfl dX8_put_8 ?_
  refine lv_sipush (v := 1600) hx hb dX8_put_11 (by decide) ?_
  refine lv_icmp_ge (tgt := 40) hx hb dX8_put_14 (by decide) (fun c_2 => absurd c_2 (by decide)) (fun _ => ?_)
  refine lv_aload_n hx hb dX8_put_17 rfl (lv_at hl 1 rfl) ?_
  refine va_get (D := D) (ci := 8) (v := .ref tb) (C := RX8) (T := TX8) (N := 2) hx hb hts iw_X8_put_X8 hown hK hP 0 rfl rfl 0 (by decide) (hts (.fieldLink RX8 9 "SoldHouse$Tape" "bytes" "[B") (List.mem_of_getElem? (i := 2) rfl)) (fun _ h9 => h9) rfl dX8_put_18 ?_
  refine lv_aload_n hx hb dX8_put_21 rfl (lv_at hl 1 rfl) ?_
  refine va_get (D := D) (ci := 8) (v := .int 0) (C := RX8) (T := TX8) (N := 2) hx hb hts iw_X8_put_X8 hown hK hP 0 rfl rfl 1 (by decide) (hts (.fieldLink RX8 15 "SoldHouse$Tape" "size" "I") (List.mem_of_getElem? (i := 1) rfl)) (fun _ h9 => h9) rfl dX8_put_22 ?_
  refine lv_iload_n hx hb dX8_put_25 rfl (lv_at hl 2 rfl) ?_
  refine lv_iload_n hx hb dX8_put_26 rfl (lv_at hl 0 rfl) ?_
  refine lv_ishr hx hb dX8_put_27 ?_
  refine lv_topi (fun y_3 ey_3 => ?_)
  refine lv_i2b hx hb dX8_put_28 rfl ?_
  refine lv_topi (fun y_4 ey_4 => ?_)
  refine va_bast hx hb hK hP hD hS 1 1 rfl rfl (show vp_in 0 1600 from (by decide : ¬ ((0 : Int32) < 0 ∨ 1600 ≤ Int32.toNatClampNeg 0))) dX8_put_29 (fun H locs hP hD hS => ?_)
  replace hP : va_P D classes [(a0, .inr (8, [.ref tb, .int 0])), (tb, .inl (cB, 1600, .inl (upd fb (Int32.toNatClampNeg 0) (vp_nar .byte y_4))))] H := hP
  replace hD : va_D A [(a0, .inr (8, [.ref tb, .int 0])), (tb, .inl (cB, 1600, .inl (upd fb (Int32.toNatClampNeg 0) (vp_nar .byte y_4))))] := hD
  generalize eg_5 : upd fb (Int32.toNatClampNeg 0) (vp_nar .byte y_4) = g_5 at hP hD
  clear eg_5
  refine lv_aload_n hx hb dX8_put_30 rfl (lv_at hl 1 rfl) ?_
  refine lv_dup hx hb dX8_put_31 rfl ?_
  refine va_get (D := D) (ci := 8) (v := .int 0) (C := RX8) (T := TX8) (N := 2) hx hb hts iw_X8_put_X8 hown hK hP 0 rfl rfl 1 (by decide) (hts (.fieldLink RX8 15 "SoldHouse$Tape" "size" "I") (List.mem_of_getElem? (i := 1) rfl)) (fun _ h9 => h9) rfl dX8_put_32 ?_
  refine lv_iconst (v := 1) hx hb dX8_put_35 (by decide) ?_
  refine lv_iadd hx hb dX8_put_36 ?_
  refine lv_topi (fun y_6 ey_6 => ?_)
  obtain rfl : y_6 = 1 := ey_6.trans (by decide)
  refine va_put (D := D) (ci := 8) (v := .int 1) (ty := tyX8 1) (C := RX8) (T := TX8) (N := 2) hx hb hts iw_X8_put_X8 tyX8 tyX8_ok nmX8 hown hK hP hD hS 0 rfl rfl 1 (by decide) (hts (.fieldLink RX8 15 "SoldHouse$Tape" "size" "I") (List.mem_of_getElem? (i := 1) rfl)) (fun _ h9 => h9) rfl (by decide +kernel) rfl rfl (Nat.le_of_ble_eq_true rfl) dX8_put_37 (fun H locs hP hD hS => ?_)
  replace hP : va_P D classes [(a0, .inr (8, [.ref tb, .int 1])), (tb, .inl (cB, 1600, .inl g_5))] H := hP
  replace hD : va_D A [(a0, .inr (8, [.ref tb, .int 1])), (tb, .inl (cB, 1600, .inl g_5))] := hD
  refine lv_iinc (v := 16) (lv' := [(2, .int 16), (0, .ref a0), (1, .int x)]) hx hb dX8_put_40 hl (k := 0) rfl (by decide) (by decide) rfl (fun ls hl => ?_)
  refine lv_goto (tgt := 3) hx hb dX8_put_43 (by decide) ?_
  refine lv_iload_n hx hb dX8_put_3 rfl (lv_at hl 0 rfl) ?_
  refine lv_if_lt (tgt := 46) hx hb dX8_put_4 (by decide) (fun c_7 => absurd c_7 (by decide)) (fun _ => ?_)
  refine lv_aload_n hx hb dX8_put_7 rfl (lv_at hl 1 rfl) ?_
  refine va_get (D := D) (ci := 8) (v := .int 1) (C := RX8) (T := TX8) (N := 2) hx hb hts iw_X8_put_X8 hown hK hP 0 rfl rfl 1 (by decide) (hts (.fieldLink RX8 15 "SoldHouse$Tape" "size" "I") (List.mem_of_getElem? (i := 1) rfl)) (fun _ h9 => h9) rfl dX8_put_8 ?_
  refine lv_sipush (v := 1600) hx hb dX8_put_11 (by decide) ?_
  refine lv_icmp_ge (tgt := 40) hx hb dX8_put_14 (by decide) (fun c_8 => absurd c_8 (by decide)) (fun _ => ?_)
  refine lv_aload_n hx hb dX8_put_17 rfl (lv_at hl 1 rfl) ?_
  refine va_get (D := D) (ci := 8) (v := .ref tb) (C := RX8) (T := TX8) (N := 2) hx hb hts iw_X8_put_X8 hown hK hP 0 rfl rfl 0 (by decide) (hts (.fieldLink RX8 9 "SoldHouse$Tape" "bytes" "[B") (List.mem_of_getElem? (i := 2) rfl)) (fun _ h9 => h9) rfl dX8_put_18 ?_
  refine lv_aload_n hx hb dX8_put_21 rfl (lv_at hl 1 rfl) ?_
  refine va_get (D := D) (ci := 8) (v := .int 1) (C := RX8) (T := TX8) (N := 2) hx hb hts iw_X8_put_X8 hown hK hP 0 rfl rfl 1 (by decide) (hts (.fieldLink RX8 15 "SoldHouse$Tape" "size" "I") (List.mem_of_getElem? (i := 1) rfl)) (fun _ h9 => h9) rfl dX8_put_22 ?_
  refine lv_iload_n hx hb dX8_put_25 rfl (lv_at hl 2 rfl) ?_
  refine lv_iload_n hx hb dX8_put_26 rfl (lv_at hl 0 rfl) ?_
  refine lv_ishr hx hb dX8_put_27 ?_
  refine lv_topi (fun y_9 ey_9 => ?_)
  refine lv_i2b hx hb dX8_put_28 rfl ?_
  refine lv_topi (fun y_10 ey_10 => ?_)
  refine va_bast hx hb hK hP hD hS 1 1 rfl rfl (show vp_in 1 1600 from (by decide : ¬ ((1 : Int32) < 0 ∨ 1600 ≤ Int32.toNatClampNeg 1))) dX8_put_29 (fun H locs hP hD hS => ?_)
  replace hP : va_P D classes [(a0, .inr (8, [.ref tb, .int 1])), (tb, .inl (cB, 1600, .inl (upd g_5 (Int32.toNatClampNeg 1) (vp_nar .byte y_10))))] H := hP
  replace hD : va_D A [(a0, .inr (8, [.ref tb, .int 1])), (tb, .inl (cB, 1600, .inl (upd g_5 (Int32.toNatClampNeg 1) (vp_nar .byte y_10))))] := hD
  generalize eg_11 : upd g_5 (Int32.toNatClampNeg 1) (vp_nar .byte y_10) = g_11 at hP hD
  clear eg_11
  refine lv_aload_n hx hb dX8_put_30 rfl (lv_at hl 1 rfl) ?_
  refine lv_dup hx hb dX8_put_31 rfl ?_
  refine va_get (D := D) (ci := 8) (v := .int 1) (C := RX8) (T := TX8) (N := 2) hx hb hts iw_X8_put_X8 hown hK hP 0 rfl rfl 1 (by decide) (hts (.fieldLink RX8 15 "SoldHouse$Tape" "size" "I") (List.mem_of_getElem? (i := 1) rfl)) (fun _ h9 => h9) rfl dX8_put_32 ?_
  refine lv_iconst (v := 1) hx hb dX8_put_35 (by decide) ?_
  refine lv_iadd hx hb dX8_put_36 ?_
  refine lv_topi (fun y_12 ey_12 => ?_)
  obtain rfl : y_12 = 2 := ey_12.trans (by decide)
  refine va_put (D := D) (ci := 8) (v := .int 2) (ty := tyX8 1) (C := RX8) (T := TX8) (N := 2) hx hb hts iw_X8_put_X8 tyX8 tyX8_ok nmX8 hown hK hP hD hS 0 rfl rfl 1 (by decide) (hts (.fieldLink RX8 15 "SoldHouse$Tape" "size" "I") (List.mem_of_getElem? (i := 1) rfl)) (fun _ h9 => h9) rfl (by decide +kernel) rfl rfl (Nat.le_of_ble_eq_true rfl) dX8_put_37 (fun H locs hP hD hS => ?_)
  replace hP : va_P D classes [(a0, .inr (8, [.ref tb, .int 2])), (tb, .inl (cB, 1600, .inl g_11))] H := hP
  replace hD : va_D A [(a0, .inr (8, [.ref tb, .int 2])), (tb, .inl (cB, 1600, .inl g_11))] := hD
  refine lv_iinc (v := 8) (lv' := [(2, .int 8), (0, .ref a0), (1, .int x)]) hx hb dX8_put_40 hl (k := 0) rfl (by decide) (by decide) rfl (fun ls hl => ?_)
  refine lv_goto (tgt := 3) hx hb dX8_put_43 (by decide) ?_
  refine lv_iload_n hx hb dX8_put_3 rfl (lv_at hl 0 rfl) ?_
  refine lv_if_lt (tgt := 46) hx hb dX8_put_4 (by decide) (fun c_13 => absurd c_13 (by decide)) (fun _ => ?_)
  refine lv_aload_n hx hb dX8_put_7 rfl (lv_at hl 1 rfl) ?_
  refine va_get (D := D) (ci := 8) (v := .int 2) (C := RX8) (T := TX8) (N := 2) hx hb hts iw_X8_put_X8 hown hK hP 0 rfl rfl 1 (by decide) (hts (.fieldLink RX8 15 "SoldHouse$Tape" "size" "I") (List.mem_of_getElem? (i := 1) rfl)) (fun _ h9 => h9) rfl dX8_put_8 ?_
  refine lv_sipush (v := 1600) hx hb dX8_put_11 (by decide) ?_
  refine lv_icmp_ge (tgt := 40) hx hb dX8_put_14 (by decide) (fun c_14 => absurd c_14 (by decide)) (fun _ => ?_)
  refine lv_aload_n hx hb dX8_put_17 rfl (lv_at hl 1 rfl) ?_
  refine va_get (D := D) (ci := 8) (v := .ref tb) (C := RX8) (T := TX8) (N := 2) hx hb hts iw_X8_put_X8 hown hK hP 0 rfl rfl 0 (by decide) (hts (.fieldLink RX8 9 "SoldHouse$Tape" "bytes" "[B") (List.mem_of_getElem? (i := 2) rfl)) (fun _ h9 => h9) rfl dX8_put_18 ?_
  refine lv_aload_n hx hb dX8_put_21 rfl (lv_at hl 1 rfl) ?_
  refine va_get (D := D) (ci := 8) (v := .int 2) (C := RX8) (T := TX8) (N := 2) hx hb hts iw_X8_put_X8 hown hK hP 0 rfl rfl 1 (by decide) (hts (.fieldLink RX8 15 "SoldHouse$Tape" "size" "I") (List.mem_of_getElem? (i := 1) rfl)) (fun _ h9 => h9) rfl dX8_put_22 ?_
  refine lv_iload_n hx hb dX8_put_25 rfl (lv_at hl 2 rfl) ?_
  refine lv_iload_n hx hb dX8_put_26 rfl (lv_at hl 0 rfl) ?_
  refine lv_ishr hx hb dX8_put_27 ?_
  refine lv_topi (fun y_15 ey_15 => ?_)
  refine lv_i2b hx hb dX8_put_28 rfl ?_
  refine lv_topi (fun y_16 ey_16 => ?_)
  refine va_bast hx hb hK hP hD hS 1 1 rfl rfl (show vp_in 2 1600 from (by decide : ¬ ((2 : Int32) < 0 ∨ 1600 ≤ Int32.toNatClampNeg 2))) dX8_put_29 (fun H locs hP hD hS => ?_)
  replace hP : va_P D classes [(a0, .inr (8, [.ref tb, .int 2])), (tb, .inl (cB, 1600, .inl (upd g_11 (Int32.toNatClampNeg 2) (vp_nar .byte y_16))))] H := hP
  replace hD : va_D A [(a0, .inr (8, [.ref tb, .int 2])), (tb, .inl (cB, 1600, .inl (upd g_11 (Int32.toNatClampNeg 2) (vp_nar .byte y_16))))] := hD
  generalize eg_17 : upd g_11 (Int32.toNatClampNeg 2) (vp_nar .byte y_16) = g_17 at hP hD
  clear eg_17
  refine lv_aload_n hx hb dX8_put_30 rfl (lv_at hl 1 rfl) ?_
  refine lv_dup hx hb dX8_put_31 rfl ?_
  refine va_get (D := D) (ci := 8) (v := .int 2) (C := RX8) (T := TX8) (N := 2) hx hb hts iw_X8_put_X8 hown hK hP 0 rfl rfl 1 (by decide) (hts (.fieldLink RX8 15 "SoldHouse$Tape" "size" "I") (List.mem_of_getElem? (i := 1) rfl)) (fun _ h9 => h9) rfl dX8_put_32 ?_
  refine lv_iconst (v := 1) hx hb dX8_put_35 (by decide) ?_
  refine lv_iadd hx hb dX8_put_36 ?_
  refine lv_topi (fun y_18 ey_18 => ?_)
  obtain rfl : y_18 = 3 := ey_18.trans (by decide)
  refine va_put (D := D) (ci := 8) (v := .int 3) (ty := tyX8 1) (C := RX8) (T := TX8) (N := 2) hx hb hts iw_X8_put_X8 tyX8 tyX8_ok nmX8 hown hK hP hD hS 0 rfl rfl 1 (by decide) (hts (.fieldLink RX8 15 "SoldHouse$Tape" "size" "I") (List.mem_of_getElem? (i := 1) rfl)) (fun _ h9 => h9) rfl (by decide +kernel) rfl rfl (Nat.le_of_ble_eq_true rfl) dX8_put_37 (fun H locs hP hD hS => ?_)
  replace hP : va_P D classes [(a0, .inr (8, [.ref tb, .int 3])), (tb, .inl (cB, 1600, .inl g_17))] H := hP
  replace hD : va_D A [(a0, .inr (8, [.ref tb, .int 3])), (tb, .inl (cB, 1600, .inl g_17))] := hD
  refine lv_iinc (v := 0) (lv' := [(2, .int 0), (0, .ref a0), (1, .int x)]) hx hb dX8_put_40 hl (k := 0) rfl (by decide) (by decide) rfl (fun ls hl => ?_)
  refine lv_goto (tgt := 3) hx hb dX8_put_43 (by decide) ?_
  refine lv_iload_n hx hb dX8_put_3 rfl (lv_at hl 0 rfl) ?_
  refine lv_if_lt (tgt := 46) hx hb dX8_put_4 (by decide) (fun c_19 => absurd c_19 (by decide)) (fun _ => ?_)
  refine lv_aload_n hx hb dX8_put_7 rfl (lv_at hl 1 rfl) ?_
  refine va_get (D := D) (ci := 8) (v := .int 3) (C := RX8) (T := TX8) (N := 2) hx hb hts iw_X8_put_X8 hown hK hP 0 rfl rfl 1 (by decide) (hts (.fieldLink RX8 15 "SoldHouse$Tape" "size" "I") (List.mem_of_getElem? (i := 1) rfl)) (fun _ h9 => h9) rfl dX8_put_8 ?_
  refine lv_sipush (v := 1600) hx hb dX8_put_11 (by decide) ?_
  refine lv_icmp_ge (tgt := 40) hx hb dX8_put_14 (by decide) (fun c_20 => absurd c_20 (by decide)) (fun _ => ?_)
  refine lv_aload_n hx hb dX8_put_17 rfl (lv_at hl 1 rfl) ?_
  refine va_get (D := D) (ci := 8) (v := .ref tb) (C := RX8) (T := TX8) (N := 2) hx hb hts iw_X8_put_X8 hown hK hP 0 rfl rfl 0 (by decide) (hts (.fieldLink RX8 9 "SoldHouse$Tape" "bytes" "[B") (List.mem_of_getElem? (i := 2) rfl)) (fun _ h9 => h9) rfl dX8_put_18 ?_
  refine lv_aload_n hx hb dX8_put_21 rfl (lv_at hl 1 rfl) ?_
  refine va_get (D := D) (ci := 8) (v := .int 3) (C := RX8) (T := TX8) (N := 2) hx hb hts iw_X8_put_X8 hown hK hP 0 rfl rfl 1 (by decide) (hts (.fieldLink RX8 15 "SoldHouse$Tape" "size" "I") (List.mem_of_getElem? (i := 1) rfl)) (fun _ h9 => h9) rfl dX8_put_22 ?_
  refine lv_iload_n hx hb dX8_put_25 rfl (lv_at hl 2 rfl) ?_
  refine lv_iload_n hx hb dX8_put_26 rfl (lv_at hl 0 rfl) ?_
  refine lv_ishr hx hb dX8_put_27 ?_
  refine lv_topi (fun y_21 ey_21 => ?_)
  refine lv_i2b hx hb dX8_put_28 rfl ?_
  refine lv_topi (fun y_22 ey_22 => ?_)
  refine va_bast hx hb hK hP hD hS 1 1 rfl rfl (show vp_in 3 1600 from (by decide : ¬ ((3 : Int32) < 0 ∨ 1600 ≤ Int32.toNatClampNeg 3))) dX8_put_29 (fun H locs hP hD hS => ?_)
  replace hP : va_P D classes [(a0, .inr (8, [.ref tb, .int 3])), (tb, .inl (cB, 1600, .inl (upd g_17 (Int32.toNatClampNeg 3) (vp_nar .byte y_22))))] H := hP
  replace hD : va_D A [(a0, .inr (8, [.ref tb, .int 3])), (tb, .inl (cB, 1600, .inl (upd g_17 (Int32.toNatClampNeg 3) (vp_nar .byte y_22))))] := hD
  generalize eg_23 : upd g_17 (Int32.toNatClampNeg 3) (vp_nar .byte y_22) = g_23 at hP hD
  clear eg_23
  refine lv_aload_n hx hb dX8_put_30 rfl (lv_at hl 1 rfl) ?_
  refine lv_dup hx hb dX8_put_31 rfl ?_
  refine va_get (D := D) (ci := 8) (v := .int 3) (C := RX8) (T := TX8) (N := 2) hx hb hts iw_X8_put_X8 hown hK hP 0 rfl rfl 1 (by decide) (hts (.fieldLink RX8 15 "SoldHouse$Tape" "size" "I") (List.mem_of_getElem? (i := 1) rfl)) (fun _ h9 => h9) rfl dX8_put_32 ?_
  refine lv_iconst (v := 1) hx hb dX8_put_35 (by decide) ?_
  refine lv_iadd hx hb dX8_put_36 ?_
  refine lv_topi (fun y_24 ey_24 => ?_)
  obtain rfl : y_24 = 4 := ey_24.trans (by decide)
  refine va_put (D := D) (ci := 8) (v := .int 4) (ty := tyX8 1) (C := RX8) (T := TX8) (N := 2) hx hb hts iw_X8_put_X8 tyX8 tyX8_ok nmX8 hown hK hP hD hS 0 rfl rfl 1 (by decide) (hts (.fieldLink RX8 15 "SoldHouse$Tape" "size" "I") (List.mem_of_getElem? (i := 1) rfl)) (fun _ h9 => h9) rfl (by decide +kernel) rfl rfl (Nat.le_of_ble_eq_true rfl) dX8_put_37 (fun H locs hP hD hS => ?_)
  replace hP : va_P D classes [(a0, .inr (8, [.ref tb, .int 4])), (tb, .inl (cB, 1600, .inl g_23))] H := hP
  replace hD : va_D A [(a0, .inr (8, [.ref tb, .int 4])), (tb, .inl (cB, 1600, .inl g_23))] := hD
  refine lv_iinc (v := (-8)) (lv' := [(2, .int (-8)), (0, .ref a0), (1, .int x)]) hx hb dX8_put_40 hl (k := 0) rfl (by decide) (by decide) rfl (fun ls hl => ?_)
  refine lv_goto (tgt := 3) hx hb dX8_put_43 (by decide) ?_
  refine lv_iload_n hx hb dX8_put_3 rfl (lv_at hl 0 rfl) ?_
  refine lv_if_lt (tgt := 46) hx hb dX8_put_4 (by decide) (fun _ => ?_) (fun c_25 => absurd (by decide) c_25)
  have hP9 := hP.sub (ws' := [(a0, .inr (8, [.ref tb, .int 4])), (tb, .inl (cB, 1600, .inl g_23))]) [0, 1] rfl
  have hD9 := hD.sub (ws' := [(a0, .inr (8, [.ref tb, .int 4])), (tb, .inl (cB, 1600, .inl g_23))]) [0, 1] (by decide) rfl
  refine W.widen (k := 0) (n := 0) (Nat.le_of_ble_eq_true rfl) (Nat.le_of_ble_eq_true rfl) ?_
  exact W.vret hx hb hr (fun t ht hW => ⟨⟨(), rfl, trivial, ⟨g_23, by rw [ht]; exact hP9, hD9⟩⟩, hS.F ht⟩) hS.2.2 dX8_put_46
set_option maxHeartbeats 4000000 in
set_option maxRecDepth 100000 in
theorem c_put4 (l : Launch) (D : va_G) (cI : ClassId) (cB : ClassId) (cL : ClassId) (cZ : ClassId) (a0 : Nat) (tb : Nat) (fb : Nat → Int32) (x : Int32) (sz : Nat) : Met l yX8_put wsX8_put ({ frames := 0, cells := 0, slots := 0, locals := 0 }) (xp D [(cI, .int), (cB, .byte), (cL, .long), (cZ, .boolean)] [(a0, .inr (8, [.ref tb, .int 4])), (tb, .inl (cB, 1600, .inl fb))] sz [] [.ref a0, .int x]) (va_Qv (fun _ : Unit => True) (fun (_ : Unit) (t : State) => ∃ (g : Nat → Int32), xB D (va_A [(a0, .inr (8, [.ref tb, .int 4])), (tb, .inl (cB, 1600, .inl fb))] sz) [(a0, .inr (8, [.ref tb, .int 8])), (tb, .inl (cB, 1600, .inl g))] t) (va_A [(a0, .inr (8, [.ref tb, .int 4])), (tb, .inl (cB, 1600, .inl fb))] sz)) 0 0 (va_A [(a0, .inr (8, [.ref tb, .int 4])), (tb, .inl (cB, 1600, .inl fb))] sz) := by
  refine Met.ofW (cc := cX8_put) (maxL := 3) (ret := none) (by decide) rfl ?_
  intro p e s m args below meth c s₁ B hml hv
  obtain ⟨rfl, hsz, hP, hK, hD0, hNw⟩ := hv
  have hx := B.exec
  have hb := B.bytes
  have hr := B.returns
  have hts := atoms_spec (ws := wsX8_put) B.pre
  have hown : s.vm.findClass RX8 = some m.cls := findClass_of_methodNamed B.named
  have hlocks := B.notSynchronized
  subst hsz
  have hD := hD0.self (sz := s.heap.size)
  clear hD0
  generalize hAe : va_A [(a0, .inr (8, [.ref tb, .int 4])), (tb, .inl (cB, 1600, .inl fb))] s.heap.size = A at hD ⊢
  have hA : ∀ q : Nat, s.heap.size ≤ q → A q := fun q h => by rw [← hAe]; exact Or.inr h
  have hS : va_S A s.heap s.heap [] := va_S.rf
  clear hAe
  obtain ⟨H, hH⟩ : ∃ H : Heap, H = s.heap := ⟨_, rfl⟩
  obtain ⟨locs, hlocs⟩ : ∃ L : List Loc, L = [] := ⟨_, rfl⟩
  replace hP : va_P D classes [(a0, .inr (8, [.ref tb, .int 4])), (tb, .inl (cB, 1600, .inl fb))] H := by rw [hH]; exact hP
  replace hS : va_S A s.heap H locs := by rw [hH, hlocs]; exact hS
  rw [← hH, ← hlocs]
  clear hlocs hH
  have hl := lv_entry ([.ref a0, .int x]) (n := 3) (Nat.le_of_ble_eq_true rfl)
  rw [lg_entry_eq]
  generalize (lg_sl ([.ref a0, .int x]) ++ List.replicate (3 - (lg_sl ([.ref a0, .int x])).length) Slot.unset).toArray = ls at hl ⊢
  replace hl : lv_has ls 3 [(0, .ref a0), (1, .int x)] := hl
  refine lv_bipush (v := 24) hx hb dX8_put_0 (by decide) ?_
  refine lv_istore_n (lv' := [(2, .int 24), (0, .ref a0), (1, .int x)]) hx hb dX8_put_2 rfl hl (by decide) rfl (fun ls hl => ?_)
  refine lv_iload_n hx hb dX8_put_3 rfl (lv_at hl 0 rfl) ?_
  refine lv_if_lt (tgt := 46) hx hb dX8_put_4 (by decide) (fun c_1 => absurd c_1 (by decide)) (fun _ => ?_)
  refine lv_aload_n hx hb dX8_put_7 rfl (lv_at hl 1 rfl) ?_
  refine va_get (D := D) (ci := 8) (v := .int 4) (C := RX8) (T := TX8) (N := 2) hx hb hts iw_X8_put_X8 hown hK hP 0 rfl rfl 1 (by decide) (hts (.fieldLink RX8 15 "SoldHouse$Tape" "size" "I") (List.mem_of_getElem? (i := 1) rfl)) (fun _ h9 => h9) rfl dX8_put_8 ?_
  refine lv_sipush (v := 1600) hx hb dX8_put_11 (by decide) ?_
  refine lv_icmp_ge (tgt := 40) hx hb dX8_put_14 (by decide) (fun c_2 => absurd c_2 (by decide)) (fun _ => ?_)
  refine lv_aload_n hx hb dX8_put_17 rfl (lv_at hl 1 rfl) ?_
  refine va_get (D := D) (ci := 8) (v := .ref tb) (C := RX8) (T := TX8) (N := 2) hx hb hts iw_X8_put_X8 hown hK hP 0 rfl rfl 0 (by decide) (hts (.fieldLink RX8 9 "SoldHouse$Tape" "bytes" "[B") (List.mem_of_getElem? (i := 2) rfl)) (fun _ h9 => h9) rfl dX8_put_18 ?_
  refine lv_aload_n hx hb dX8_put_21 rfl (lv_at hl 1 rfl) ?_
  refine va_get (D := D) (ci := 8) (v := .int 4) (C := RX8) (T := TX8) (N := 2) hx hb hts iw_X8_put_X8 hown hK hP 0 rfl rfl 1 (by decide) (hts (.fieldLink RX8 15 "SoldHouse$Tape" "size" "I") (List.mem_of_getElem? (i := 1) rfl)) (fun _ h9 => h9) rfl dX8_put_22 ?_
  refine lv_iload_n hx hb dX8_put_25 rfl (lv_at hl 2 rfl) ?_
  refine lv_iload_n hx hb dX8_put_26 rfl (lv_at hl 0 rfl) ?_
  refine lv_ishr hx hb dX8_put_27 ?_
  refine lv_topi (fun y_3 ey_3 => ?_)
  refine lv_i2b hx hb dX8_put_28 rfl ?_
  refine lv_topi (fun y_4 ey_4 => ?_)
  refine va_bast hx hb hK hP hD hS 1 1 rfl rfl (show vp_in 4 1600 from (by decide : ¬ ((4 : Int32) < 0 ∨ 1600 ≤ Int32.toNatClampNeg 4))) dX8_put_29 (fun H locs hP hD hS => ?_)
  replace hP : va_P D classes [(a0, .inr (8, [.ref tb, .int 4])), (tb, .inl (cB, 1600, .inl (upd fb (Int32.toNatClampNeg 4) (vp_nar .byte y_4))))] H := hP
  replace hD : va_D A [(a0, .inr (8, [.ref tb, .int 4])), (tb, .inl (cB, 1600, .inl (upd fb (Int32.toNatClampNeg 4) (vp_nar .byte y_4))))] := hD
  generalize eg_5 : upd fb (Int32.toNatClampNeg 4) (vp_nar .byte y_4) = g_5 at hP hD
  clear eg_5
  refine lv_aload_n hx hb dX8_put_30 rfl (lv_at hl 1 rfl) ?_
  refine lv_dup hx hb dX8_put_31 rfl ?_
  refine va_get (D := D) (ci := 8) (v := .int 4) (C := RX8) (T := TX8) (N := 2) hx hb hts iw_X8_put_X8 hown hK hP 0 rfl rfl 1 (by decide) (hts (.fieldLink RX8 15 "SoldHouse$Tape" "size" "I") (List.mem_of_getElem? (i := 1) rfl)) (fun _ h9 => h9) rfl dX8_put_32 ?_
  refine lv_iconst (v := 1) hx hb dX8_put_35 (by decide) ?_
  refine lv_iadd hx hb dX8_put_36 ?_
  refine lv_topi (fun y_6 ey_6 => ?_)
  obtain rfl : y_6 = 5 := ey_6.trans (by decide)
  refine va_put (D := D) (ci := 8) (v := .int 5) (ty := tyX8 1) (C := RX8) (T := TX8) (N := 2) hx hb hts iw_X8_put_X8 tyX8 tyX8_ok nmX8 hown hK hP hD hS 0 rfl rfl 1 (by decide) (hts (.fieldLink RX8 15 "SoldHouse$Tape" "size" "I") (List.mem_of_getElem? (i := 1) rfl)) (fun _ h9 => h9) rfl (by decide +kernel) rfl rfl (Nat.le_of_ble_eq_true rfl) dX8_put_37 (fun H locs hP hD hS => ?_)
  replace hP : va_P D classes [(a0, .inr (8, [.ref tb, .int 5])), (tb, .inl (cB, 1600, .inl g_5))] H := hP
  replace hD : va_D A [(a0, .inr (8, [.ref tb, .int 5])), (tb, .inl (cB, 1600, .inl g_5))] := hD
  refine lv_iinc (v := 16) (lv' := [(2, .int 16), (0, .ref a0), (1, .int x)]) hx hb dX8_put_40 hl (k := 0) rfl (by decide) (by decide) rfl (fun ls hl => ?_)
  refine lv_goto (tgt := 3) hx hb dX8_put_43 (by decide) ?_
  refine lv_iload_n hx hb dX8_put_3 rfl (lv_at hl 0 rfl) ?_
  refine lv_if_lt (tgt := 46) hx hb dX8_put_4 (by decide) (fun c_7 => absurd c_7 (by decide)) (fun _ => ?_)
  refine lv_aload_n hx hb dX8_put_7 rfl (lv_at hl 1 rfl) ?_
  refine va_get (D := D) (ci := 8) (v := .int 5) (C := RX8) (T := TX8) (N := 2) hx hb hts iw_X8_put_X8 hown hK hP 0 rfl rfl 1 (by decide) (hts (.fieldLink RX8 15 "SoldHouse$Tape" "size" "I") (List.mem_of_getElem? (i := 1) rfl)) (fun _ h9 => h9) rfl dX8_put_8 ?_
  refine lv_sipush (v := 1600) hx hb dX8_put_11 (by decide) ?_
  refine lv_icmp_ge (tgt := 40) hx hb dX8_put_14 (by decide) (fun c_8 => absurd c_8 (by decide)) (fun _ => ?_)
  refine lv_aload_n hx hb dX8_put_17 rfl (lv_at hl 1 rfl) ?_
  refine va_get (D := D) (ci := 8) (v := .ref tb) (C := RX8) (T := TX8) (N := 2) hx hb hts iw_X8_put_X8 hown hK hP 0 rfl rfl 0 (by decide) (hts (.fieldLink RX8 9 "SoldHouse$Tape" "bytes" "[B") (List.mem_of_getElem? (i := 2) rfl)) (fun _ h9 => h9) rfl dX8_put_18 ?_
  refine lv_aload_n hx hb dX8_put_21 rfl (lv_at hl 1 rfl) ?_
  refine va_get (D := D) (ci := 8) (v := .int 5) (C := RX8) (T := TX8) (N := 2) hx hb hts iw_X8_put_X8 hown hK hP 0 rfl rfl 1 (by decide) (hts (.fieldLink RX8 15 "SoldHouse$Tape" "size" "I") (List.mem_of_getElem? (i := 1) rfl)) (fun _ h9 => h9) rfl dX8_put_22 ?_
  refine lv_iload_n hx hb dX8_put_25 rfl (lv_at hl 2 rfl) ?_
  refine lv_iload_n hx hb dX8_put_26 rfl (lv_at hl 0 rfl) ?_
  refine lv_ishr hx hb dX8_put_27 ?_
  refine lv_topi (fun y_9 ey_9 => ?_)
  refine lv_i2b hx hb dX8_put_28 rfl ?_
  refine lv_topi (fun y_10 ey_10 => ?_)
  refine va_bast hx hb hK hP hD hS 1 1 rfl rfl (show vp_in 5 1600 from (by decide : ¬ ((5 : Int32) < 0 ∨ 1600 ≤ Int32.toNatClampNeg 5))) dX8_put_29 (fun H locs hP hD hS => ?_)
  replace hP : va_P D classes [(a0, .inr (8, [.ref tb, .int 5])), (tb, .inl (cB, 1600, .inl (upd g_5 (Int32.toNatClampNeg 5) (vp_nar .byte y_10))))] H := hP
  replace hD : va_D A [(a0, .inr (8, [.ref tb, .int 5])), (tb, .inl (cB, 1600, .inl (upd g_5 (Int32.toNatClampNeg 5) (vp_nar .byte y_10))))] := hD
  generalize eg_11 : upd g_5 (Int32.toNatClampNeg 5) (vp_nar .byte y_10) = g_11 at hP hD
  clear eg_11
  refine lv_aload_n hx hb dX8_put_30 rfl (lv_at hl 1 rfl) ?_
  refine lv_dup hx hb dX8_put_31 rfl ?_
  refine va_get (D := D) (ci := 8) (v := .int 5) (C := RX8) (T := TX8) (N := 2) hx hb hts iw_X8_put_X8 hown hK hP 0 rfl rfl 1 (by decide) (hts (.fieldLink RX8 15 "SoldHouse$Tape" "size" "I") (List.mem_of_getElem? (i := 1) rfl)) (fun _ h9 => h9) rfl dX8_put_32 ?_
  refine lv_iconst (v := 1) hx hb dX8_put_35 (by decide) ?_
  refine lv_iadd hx hb dX8_put_36 ?_
  refine lv_topi (fun y_12 ey_12 => ?_)
  obtain rfl : y_12 = 6 := ey_12.trans (by decide)
  refine va_put (D := D) (ci := 8) (v := .int 6) (ty := tyX8 1) (C := RX8) (T := TX8) (N := 2) hx hb hts iw_X8_put_X8 tyX8 tyX8_ok nmX8 hown hK hP hD hS 0 rfl rfl 1 (by decide) (hts (.fieldLink RX8 15 "SoldHouse$Tape" "size" "I") (List.mem_of_getElem? (i := 1) rfl)) (fun _ h9 => h9) rfl (by decide +kernel) rfl rfl (Nat.le_of_ble_eq_true rfl) dX8_put_37 (fun H locs hP hD hS => ?_)
  replace hP : va_P D classes [(a0, .inr (8, [.ref tb, .int 6])), (tb, .inl (cB, 1600, .inl g_11))] H := hP
  replace hD : va_D A [(a0, .inr (8, [.ref tb, .int 6])), (tb, .inl (cB, 1600, .inl g_11))] := hD
  refine lv_iinc (v := 8) (lv' := [(2, .int 8), (0, .ref a0), (1, .int x)]) hx hb dX8_put_40 hl (k := 0) rfl (by decide) (by decide) rfl (fun ls hl => ?_)
  refine lv_goto (tgt := 3) hx hb dX8_put_43 (by decide) ?_
  refine lv_iload_n hx hb dX8_put_3 rfl (lv_at hl 0 rfl) ?_
  refine lv_if_lt (tgt := 46) hx hb dX8_put_4 (by decide) (fun c_13 => absurd c_13 (by decide)) (fun _ => ?_)
  refine lv_aload_n hx hb dX8_put_7 rfl (lv_at hl 1 rfl) ?_
  refine va_get (D := D) (ci := 8) (v := .int 6) (C := RX8) (T := TX8) (N := 2) hx hb hts iw_X8_put_X8 hown hK hP 0 rfl rfl 1 (by decide) (hts (.fieldLink RX8 15 "SoldHouse$Tape" "size" "I") (List.mem_of_getElem? (i := 1) rfl)) (fun _ h9 => h9) rfl dX8_put_8 ?_
  refine lv_sipush (v := 1600) hx hb dX8_put_11 (by decide) ?_
  refine lv_icmp_ge (tgt := 40) hx hb dX8_put_14 (by decide) (fun c_14 => absurd c_14 (by decide)) (fun _ => ?_)
  refine lv_aload_n hx hb dX8_put_17 rfl (lv_at hl 1 rfl) ?_
  refine va_get (D := D) (ci := 8) (v := .ref tb) (C := RX8) (T := TX8) (N := 2) hx hb hts iw_X8_put_X8 hown hK hP 0 rfl rfl 0 (by decide) (hts (.fieldLink RX8 9 "SoldHouse$Tape" "bytes" "[B") (List.mem_of_getElem? (i := 2) rfl)) (fun _ h9 => h9) rfl dX8_put_18 ?_
  refine lv_aload_n hx hb dX8_put_21 rfl (lv_at hl 1 rfl) ?_
  refine va_get (D := D) (ci := 8) (v := .int 6) (C := RX8) (T := TX8) (N := 2) hx hb hts iw_X8_put_X8 hown hK hP 0 rfl rfl 1 (by decide) (hts (.fieldLink RX8 15 "SoldHouse$Tape" "size" "I") (List.mem_of_getElem? (i := 1) rfl)) (fun _ h9 => h9) rfl dX8_put_22 ?_
  refine lv_iload_n hx hb dX8_put_25 rfl (lv_at hl 2 rfl) ?_
  refine lv_iload_n hx hb dX8_put_26 rfl (lv_at hl 0 rfl) ?_
  refine lv_ishr hx hb dX8_put_27 ?_
  refine lv_topi (fun y_15 ey_15 => ?_)
  refine lv_i2b hx hb dX8_put_28 rfl ?_
  refine lv_topi (fun y_16 ey_16 => ?_)
  refine va_bast hx hb hK hP hD hS 1 1 rfl rfl (show vp_in 6 1600 from (by decide : ¬ ((6 : Int32) < 0 ∨ 1600 ≤ Int32.toNatClampNeg 6))) dX8_put_29 (fun H locs hP hD hS => ?_)
  replace hP : va_P D classes [(a0, .inr (8, [.ref tb, .int 6])), (tb, .inl (cB, 1600, .inl (upd g_11 (Int32.toNatClampNeg 6) (vp_nar .byte y_16))))] H := hP
  replace hD : va_D A [(a0, .inr (8, [.ref tb, .int 6])), (tb, .inl (cB, 1600, .inl (upd g_11 (Int32.toNatClampNeg 6) (vp_nar .byte y_16))))] := hD
  generalize eg_17 : upd g_11 (Int32.toNatClampNeg 6) (vp_nar .byte y_16) = g_17 at hP hD
  clear eg_17
  refine lv_aload_n hx hb dX8_put_30 rfl (lv_at hl 1 rfl) ?_
  refine lv_dup hx hb dX8_put_31 rfl ?_
  refine va_get (D := D) (ci := 8) (v := .int 6) (C := RX8) (T := TX8) (N := 2) hx hb hts iw_X8_put_X8 hown hK hP 0 rfl rfl 1 (by decide) (hts (.fieldLink RX8 15 "SoldHouse$Tape" "size" "I") (List.mem_of_getElem? (i := 1) rfl)) (fun _ h9 => h9) rfl dX8_put_32 ?_
  refine lv_iconst (v := 1) hx hb dX8_put_35 (by decide) ?_
  refine lv_iadd hx hb dX8_put_36 ?_
  refine lv_topi (fun y_18 ey_18 => ?_)
  obtain rfl : y_18 = 7 := ey_18.trans (by decide)
  refine va_put (D := D) (ci := 8) (v := .int 7) (ty := tyX8 1) (C := RX8) (T := TX8) (N := 2) hx hb hts iw_X8_put_X8 tyX8 tyX8_ok nmX8 hown hK hP hD hS 0 rfl rfl 1 (by decide) (hts (.fieldLink RX8 15 "SoldHouse$Tape" "size" "I") (List.mem_of_getElem? (i := 1) rfl)) (fun _ h9 => h9) rfl (by decide +kernel) rfl rfl (Nat.le_of_ble_eq_true rfl) dX8_put_37 (fun H locs hP hD hS => ?_)
  replace hP : va_P D classes [(a0, .inr (8, [.ref tb, .int 7])), (tb, .inl (cB, 1600, .inl g_17))] H := hP
  replace hD : va_D A [(a0, .inr (8, [.ref tb, .int 7])), (tb, .inl (cB, 1600, .inl g_17))] := hD
  refine lv_iinc (v := 0) (lv' := [(2, .int 0), (0, .ref a0), (1, .int x)]) hx hb dX8_put_40 hl (k := 0) rfl (by decide) (by decide) rfl (fun ls hl => ?_)
  refine lv_goto (tgt := 3) hx hb dX8_put_43 (by decide) ?_
  refine lv_iload_n hx hb dX8_put_3 rfl (lv_at hl 0 rfl) ?_
  refine lv_if_lt (tgt := 46) hx hb dX8_put_4 (by decide) (fun c_19 => absurd c_19 (by decide)) (fun _ => ?_)
  refine lv_aload_n hx hb dX8_put_7 rfl (lv_at hl 1 rfl) ?_
  refine va_get (D := D) (ci := 8) (v := .int 7) (C := RX8) (T := TX8) (N := 2) hx hb hts iw_X8_put_X8 hown hK hP 0 rfl rfl 1 (by decide) (hts (.fieldLink RX8 15 "SoldHouse$Tape" "size" "I") (List.mem_of_getElem? (i := 1) rfl)) (fun _ h9 => h9) rfl dX8_put_8 ?_
  refine lv_sipush (v := 1600) hx hb dX8_put_11 (by decide) ?_
  refine lv_icmp_ge (tgt := 40) hx hb dX8_put_14 (by decide) (fun c_20 => absurd c_20 (by decide)) (fun _ => ?_)
  refine lv_aload_n hx hb dX8_put_17 rfl (lv_at hl 1 rfl) ?_
  refine va_get (D := D) (ci := 8) (v := .ref tb) (C := RX8) (T := TX8) (N := 2) hx hb hts iw_X8_put_X8 hown hK hP 0 rfl rfl 0 (by decide) (hts (.fieldLink RX8 9 "SoldHouse$Tape" "bytes" "[B") (List.mem_of_getElem? (i := 2) rfl)) (fun _ h9 => h9) rfl dX8_put_18 ?_
  refine lv_aload_n hx hb dX8_put_21 rfl (lv_at hl 1 rfl) ?_
  refine va_get (D := D) (ci := 8) (v := .int 7) (C := RX8) (T := TX8) (N := 2) hx hb hts iw_X8_put_X8 hown hK hP 0 rfl rfl 1 (by decide) (hts (.fieldLink RX8 15 "SoldHouse$Tape" "size" "I") (List.mem_of_getElem? (i := 1) rfl)) (fun _ h9 => h9) rfl dX8_put_22 ?_
  refine lv_iload_n hx hb dX8_put_25 rfl (lv_at hl 2 rfl) ?_
  refine lv_iload_n hx hb dX8_put_26 rfl (lv_at hl 0 rfl) ?_
  refine lv_ishr hx hb dX8_put_27 ?_
  refine lv_topi (fun y_21 ey_21 => ?_)
  refine lv_i2b hx hb dX8_put_28 rfl ?_
  refine lv_topi (fun y_22 ey_22 => ?_)
  refine va_bast hx hb hK hP hD hS 1 1 rfl rfl (show vp_in 7 1600 from (by decide : ¬ ((7 : Int32) < 0 ∨ 1600 ≤ Int32.toNatClampNeg 7))) dX8_put_29 (fun H locs hP hD hS => ?_)
  replace hP : va_P D classes [(a0, .inr (8, [.ref tb, .int 7])), (tb, .inl (cB, 1600, .inl (upd g_17 (Int32.toNatClampNeg 7) (vp_nar .byte y_22))))] H := hP
  replace hD : va_D A [(a0, .inr (8, [.ref tb, .int 7])), (tb, .inl (cB, 1600, .inl (upd g_17 (Int32.toNatClampNeg 7) (vp_nar .byte y_22))))] := hD
  generalize eg_23 : upd g_17 (Int32.toNatClampNeg 7) (vp_nar .byte y_22) = g_23 at hP hD
  clear eg_23
  refine lv_aload_n hx hb dX8_put_30 rfl (lv_at hl 1 rfl) ?_
  refine lv_dup hx hb dX8_put_31 rfl ?_
  refine va_get (D := D) (ci := 8) (v := .int 7) (C := RX8) (T := TX8) (N := 2) hx hb hts iw_X8_put_X8 hown hK hP 0 rfl rfl 1 (by decide) (hts (.fieldLink RX8 15 "SoldHouse$Tape" "size" "I") (List.mem_of_getElem? (i := 1) rfl)) (fun _ h9 => h9) rfl dX8_put_32 ?_
  refine lv_iconst (v := 1) hx hb dX8_put_35 (by decide) ?_
  refine lv_iadd hx hb dX8_put_36 ?_
  refine lv_topi (fun y_24 ey_24 => ?_)
  obtain rfl : y_24 = 8 := ey_24.trans (by decide)
  refine va_put (D := D) (ci := 8) (v := .int 8) (ty := tyX8 1) (C := RX8) (T := TX8) (N := 2) hx hb hts iw_X8_put_X8 tyX8 tyX8_ok nmX8 hown hK hP hD hS 0 rfl rfl 1 (by decide) (hts (.fieldLink RX8 15 "SoldHouse$Tape" "size" "I") (List.mem_of_getElem? (i := 1) rfl)) (fun _ h9 => h9) rfl (by decide +kernel) rfl rfl (Nat.le_of_ble_eq_true rfl) dX8_put_37 (fun H locs hP hD hS => ?_)
  replace hP : va_P D classes [(a0, .inr (8, [.ref tb, .int 8])), (tb, .inl (cB, 1600, .inl g_23))] H := hP
  replace hD : va_D A [(a0, .inr (8, [.ref tb, .int 8])), (tb, .inl (cB, 1600, .inl g_23))] := hD
  refine lv_iinc (v := (-8)) (lv' := [(2, .int (-8)), (0, .ref a0), (1, .int x)]) hx hb dX8_put_40 hl (k := 0) rfl (by decide) (by decide) rfl (fun ls hl => ?_)
  refine lv_goto (tgt := 3) hx hb dX8_put_43 (by decide) ?_
  refine lv_iload_n hx hb dX8_put_3 rfl (lv_at hl 0 rfl) ?_
  refine lv_if_lt (tgt := 46) hx hb dX8_put_4 (by decide) (fun _ => ?_) (fun c_25 => absurd (by decide) c_25)
  have hP9 := hP.sub (ws' := [(a0, .inr (8, [.ref tb, .int 8])), (tb, .inl (cB, 1600, .inl g_23))]) [0, 1] rfl
  have hD9 := hD.sub (ws' := [(a0, .inr (8, [.ref tb, .int 8])), (tb, .inl (cB, 1600, .inl g_23))]) [0, 1] (by decide) rfl
  refine W.widen (k := 0) (n := 0) (Nat.le_of_ble_eq_true rfl) (Nat.le_of_ble_eq_true rfl) ?_
  exact W.vret hx hb hr (fun t ht hW => ⟨⟨(), rfl, trivial, ⟨g_23, by rw [ht]; exact hP9, hD9⟩⟩, hS.F ht⟩) hS.2.2 dX8_put_46
set_option maxHeartbeats 4000000 in
set_option maxRecDepth 100000 in
theorem c_put8 (l : Launch) (D : va_G) (cI : ClassId) (cB : ClassId) (cL : ClassId) (cZ : ClassId) (a0 : Nat) (tb : Nat) (fb : Nat → Int32) (x : Int32) (sz : Nat) : Met l yX8_put wsX8_put ({ frames := 0, cells := 0, slots := 0, locals := 0 }) (xp D [(cI, .int), (cB, .byte), (cL, .long), (cZ, .boolean)] [(a0, .inr (8, [.ref tb, .int 8])), (tb, .inl (cB, 1600, .inl fb))] sz [] [.ref a0, .int x]) (va_Qv (fun _ : Unit => True) (fun (_ : Unit) (t : State) => ∃ (g : Nat → Int32), xB D (va_A [(a0, .inr (8, [.ref tb, .int 8])), (tb, .inl (cB, 1600, .inl fb))] sz) [(a0, .inr (8, [.ref tb, .int 12])), (tb, .inl (cB, 1600, .inl g))] t) (va_A [(a0, .inr (8, [.ref tb, .int 8])), (tb, .inl (cB, 1600, .inl fb))] sz)) 0 0 (va_A [(a0, .inr (8, [.ref tb, .int 8])), (tb, .inl (cB, 1600, .inl fb))] sz) := by
  refine Met.ofW (cc := cX8_put) (maxL := 3) (ret := none) (by decide) rfl ?_
  intro p e s m args below meth c s₁ B hml hv
  obtain ⟨rfl, hsz, hP, hK, hD0, hNw⟩ := hv
  have hx := B.exec
  have hb := B.bytes
  have hr := B.returns
  have hts := atoms_spec (ws := wsX8_put) B.pre
  have hown : s.vm.findClass RX8 = some m.cls := findClass_of_methodNamed B.named
  have hlocks := B.notSynchronized
  subst hsz
  have hD := hD0.self (sz := s.heap.size)
  clear hD0
  generalize hAe : va_A [(a0, .inr (8, [.ref tb, .int 8])), (tb, .inl (cB, 1600, .inl fb))] s.heap.size = A at hD ⊢
  have hA : ∀ q : Nat, s.heap.size ≤ q → A q := fun q h => by rw [← hAe]; exact Or.inr h
  have hS : va_S A s.heap s.heap [] := va_S.rf
  clear hAe
  obtain ⟨H, hH⟩ : ∃ H : Heap, H = s.heap := ⟨_, rfl⟩
  obtain ⟨locs, hlocs⟩ : ∃ L : List Loc, L = [] := ⟨_, rfl⟩
  replace hP : va_P D classes [(a0, .inr (8, [.ref tb, .int 8])), (tb, .inl (cB, 1600, .inl fb))] H := by rw [hH]; exact hP
  replace hS : va_S A s.heap H locs := by rw [hH, hlocs]; exact hS
  rw [← hH, ← hlocs]
  clear hlocs hH
  have hl := lv_entry ([.ref a0, .int x]) (n := 3) (Nat.le_of_ble_eq_true rfl)
  rw [lg_entry_eq]
  generalize (lg_sl ([.ref a0, .int x]) ++ List.replicate (3 - (lg_sl ([.ref a0, .int x])).length) Slot.unset).toArray = ls at hl ⊢
  replace hl : lv_has ls 3 [(0, .ref a0), (1, .int x)] := hl
  refine lv_bipush (v := 24) hx hb dX8_put_0 (by decide) ?_
  refine lv_istore_n (lv' := [(2, .int 24), (0, .ref a0), (1, .int x)]) hx hb dX8_put_2 rfl hl (by decide) rfl (fun ls hl => ?_)
  refine lv_iload_n hx hb dX8_put_3 rfl (lv_at hl 0 rfl) ?_
  refine lv_if_lt (tgt := 46) hx hb dX8_put_4 (by decide) (fun c_1 => absurd c_1 (by decide)) (fun _ => ?_)
  refine lv_aload_n hx hb dX8_put_7 rfl (lv_at hl 1 rfl) ?_
  refine va_get (D := D) (ci := 8) (v := .int 8) (C := RX8) (T := TX8) (N := 2) hx hb hts iw_X8_put_X8 hown hK hP 0 rfl rfl 1 (by decide) (hts (.fieldLink RX8 15 "SoldHouse$Tape" "size" "I") (List.mem_of_getElem? (i := 1) rfl)) (fun _ h9 => h9) rfl dX8_put_8 ?_
  refine lv_sipush (v := 1600) hx hb dX8_put_11 (by decide) ?_
  refine lv_icmp_ge (tgt := 40) hx hb dX8_put_14 (by decide) (fun c_2 => absurd c_2 (by decide)) (fun _ => ?_)
  refine lv_aload_n hx hb dX8_put_17 rfl (lv_at hl 1 rfl) ?_
  refine va_get (D := D) (ci := 8) (v := .ref tb) (C := RX8) (T := TX8) (N := 2) hx hb hts iw_X8_put_X8 hown hK hP 0 rfl rfl 0 (by decide) (hts (.fieldLink RX8 9 "SoldHouse$Tape" "bytes" "[B") (List.mem_of_getElem? (i := 2) rfl)) (fun _ h9 => h9) rfl dX8_put_18 ?_
  refine lv_aload_n hx hb dX8_put_21 rfl (lv_at hl 1 rfl) ?_
  refine va_get (D := D) (ci := 8) (v := .int 8) (C := RX8) (T := TX8) (N := 2) hx hb hts iw_X8_put_X8 hown hK hP 0 rfl rfl 1 (by decide) (hts (.fieldLink RX8 15 "SoldHouse$Tape" "size" "I") (List.mem_of_getElem? (i := 1) rfl)) (fun _ h9 => h9) rfl dX8_put_22 ?_
  refine lv_iload_n hx hb dX8_put_25 rfl (lv_at hl 2 rfl) ?_
  refine lv_iload_n hx hb dX8_put_26 rfl (lv_at hl 0 rfl) ?_
  refine lv_ishr hx hb dX8_put_27 ?_
  refine lv_topi (fun y_3 ey_3 => ?_)
  refine lv_i2b hx hb dX8_put_28 rfl ?_
  refine lv_topi (fun y_4 ey_4 => ?_)
  refine va_bast hx hb hK hP hD hS 1 1 rfl rfl (show vp_in 8 1600 from (by decide : ¬ ((8 : Int32) < 0 ∨ 1600 ≤ Int32.toNatClampNeg 8))) dX8_put_29 (fun H locs hP hD hS => ?_)
  replace hP : va_P D classes [(a0, .inr (8, [.ref tb, .int 8])), (tb, .inl (cB, 1600, .inl (upd fb (Int32.toNatClampNeg 8) (vp_nar .byte y_4))))] H := hP
  replace hD : va_D A [(a0, .inr (8, [.ref tb, .int 8])), (tb, .inl (cB, 1600, .inl (upd fb (Int32.toNatClampNeg 8) (vp_nar .byte y_4))))] := hD
  generalize eg_5 : upd fb (Int32.toNatClampNeg 8) (vp_nar .byte y_4) = g_5 at hP hD
  clear eg_5
  refine lv_aload_n hx hb dX8_put_30 rfl (lv_at hl 1 rfl) ?_
  refine lv_dup hx hb dX8_put_31 rfl ?_
  refine va_get (D := D) (ci := 8) (v := .int 8) (C := RX8) (T := TX8) (N := 2) hx hb hts iw_X8_put_X8 hown hK hP 0 rfl rfl 1 (by decide) (hts (.fieldLink RX8 15 "SoldHouse$Tape" "size" "I") (List.mem_of_getElem? (i := 1) rfl)) (fun _ h9 => h9) rfl dX8_put_32 ?_
  refine lv_iconst (v := 1) hx hb dX8_put_35 (by decide) ?_
  refine lv_iadd hx hb dX8_put_36 ?_
  refine lv_topi (fun y_6 ey_6 => ?_)
  obtain rfl : y_6 = 9 := ey_6.trans (by decide)
  refine va_put (D := D) (ci := 8) (v := .int 9) (ty := tyX8 1) (C := RX8) (T := TX8) (N := 2) hx hb hts iw_X8_put_X8 tyX8 tyX8_ok nmX8 hown hK hP hD hS 0 rfl rfl 1 (by decide) (hts (.fieldLink RX8 15 "SoldHouse$Tape" "size" "I") (List.mem_of_getElem? (i := 1) rfl)) (fun _ h9 => h9) rfl (by decide +kernel) rfl rfl (Nat.le_of_ble_eq_true rfl) dX8_put_37 (fun H locs hP hD hS => ?_)
  replace hP : va_P D classes [(a0, .inr (8, [.ref tb, .int 9])), (tb, .inl (cB, 1600, .inl g_5))] H := hP
  replace hD : va_D A [(a0, .inr (8, [.ref tb, .int 9])), (tb, .inl (cB, 1600, .inl g_5))] := hD
  refine lv_iinc (v := 16) (lv' := [(2, .int 16), (0, .ref a0), (1, .int x)]) hx hb dX8_put_40 hl (k := 0) rfl (by decide) (by decide) rfl (fun ls hl => ?_)
  refine lv_goto (tgt := 3) hx hb dX8_put_43 (by decide) ?_
  refine lv_iload_n hx hb dX8_put_3 rfl (lv_at hl 0 rfl) ?_
  refine lv_if_lt (tgt := 46) hx hb dX8_put_4 (by decide) (fun c_7 => absurd c_7 (by decide)) (fun _ => ?_)
  refine lv_aload_n hx hb dX8_put_7 rfl (lv_at hl 1 rfl) ?_
  refine va_get (D := D) (ci := 8) (v := .int 9) (C := RX8) (T := TX8) (N := 2) hx hb hts iw_X8_put_X8 hown hK hP 0 rfl rfl 1 (by decide) (hts (.fieldLink RX8 15 "SoldHouse$Tape" "size" "I") (List.mem_of_getElem? (i := 1) rfl)) (fun _ h9 => h9) rfl dX8_put_8 ?_
  refine lv_sipush (v := 1600) hx hb dX8_put_11 (by decide) ?_
  refine lv_icmp_ge (tgt := 40) hx hb dX8_put_14 (by decide) (fun c_8 => absurd c_8 (by decide)) (fun _ => ?_)
  refine lv_aload_n hx hb dX8_put_17 rfl (lv_at hl 1 rfl) ?_
  refine va_get (D := D) (ci := 8) (v := .ref tb) (C := RX8) (T := TX8) (N := 2) hx hb hts iw_X8_put_X8 hown hK hP 0 rfl rfl 0 (by decide) (hts (.fieldLink RX8 9 "SoldHouse$Tape" "bytes" "[B") (List.mem_of_getElem? (i := 2) rfl)) (fun _ h9 => h9) rfl dX8_put_18 ?_
  refine lv_aload_n hx hb dX8_put_21 rfl (lv_at hl 1 rfl) ?_
  refine va_get (D := D) (ci := 8) (v := .int 9) (C := RX8) (T := TX8) (N := 2) hx hb hts iw_X8_put_X8 hown hK hP 0 rfl rfl 1 (by decide) (hts (.fieldLink RX8 15 "SoldHouse$Tape" "size" "I") (List.mem_of_getElem? (i := 1) rfl)) (fun _ h9 => h9) rfl dX8_put_22 ?_
  refine lv_iload_n hx hb dX8_put_25 rfl (lv_at hl 2 rfl) ?_
  refine lv_iload_n hx hb dX8_put_26 rfl (lv_at hl 0 rfl) ?_
  refine lv_ishr hx hb dX8_put_27 ?_
  refine lv_topi (fun y_9 ey_9 => ?_)
  refine lv_i2b hx hb dX8_put_28 rfl ?_
  refine lv_topi (fun y_10 ey_10 => ?_)
  refine va_bast hx hb hK hP hD hS 1 1 rfl rfl (show vp_in 9 1600 from (by decide : ¬ ((9 : Int32) < 0 ∨ 1600 ≤ Int32.toNatClampNeg 9))) dX8_put_29 (fun H locs hP hD hS => ?_)
  replace hP : va_P D classes [(a0, .inr (8, [.ref tb, .int 9])), (tb, .inl (cB, 1600, .inl (upd g_5 (Int32.toNatClampNeg 9) (vp_nar .byte y_10))))] H := hP
  replace hD : va_D A [(a0, .inr (8, [.ref tb, .int 9])), (tb, .inl (cB, 1600, .inl (upd g_5 (Int32.toNatClampNeg 9) (vp_nar .byte y_10))))] := hD
  generalize eg_11 : upd g_5 (Int32.toNatClampNeg 9) (vp_nar .byte y_10) = g_11 at hP hD
  clear eg_11
  refine lv_aload_n hx hb dX8_put_30 rfl (lv_at hl 1 rfl) ?_
  refine lv_dup hx hb dX8_put_31 rfl ?_
  refine va_get (D := D) (ci := 8) (v := .int 9) (C := RX8) (T := TX8) (N := 2) hx hb hts iw_X8_put_X8 hown hK hP 0 rfl rfl 1 (by decide) (hts (.fieldLink RX8 15 "SoldHouse$Tape" "size" "I") (List.mem_of_getElem? (i := 1) rfl)) (fun _ h9 => h9) rfl dX8_put_32 ?_
  refine lv_iconst (v := 1) hx hb dX8_put_35 (by decide) ?_
  refine lv_iadd hx hb dX8_put_36 ?_
  refine lv_topi (fun y_12 ey_12 => ?_)
  obtain rfl : y_12 = 10 := ey_12.trans (by decide)
  refine va_put (D := D) (ci := 8) (v := .int 10) (ty := tyX8 1) (C := RX8) (T := TX8) (N := 2) hx hb hts iw_X8_put_X8 tyX8 tyX8_ok nmX8 hown hK hP hD hS 0 rfl rfl 1 (by decide) (hts (.fieldLink RX8 15 "SoldHouse$Tape" "size" "I") (List.mem_of_getElem? (i := 1) rfl)) (fun _ h9 => h9) rfl (by decide +kernel) rfl rfl (Nat.le_of_ble_eq_true rfl) dX8_put_37 (fun H locs hP hD hS => ?_)
  replace hP : va_P D classes [(a0, .inr (8, [.ref tb, .int 10])), (tb, .inl (cB, 1600, .inl g_11))] H := hP
  replace hD : va_D A [(a0, .inr (8, [.ref tb, .int 10])), (tb, .inl (cB, 1600, .inl g_11))] := hD
  refine lv_iinc (v := 8) (lv' := [(2, .int 8), (0, .ref a0), (1, .int x)]) hx hb dX8_put_40 hl (k := 0) rfl (by decide) (by decide) rfl (fun ls hl => ?_)
  refine lv_goto (tgt := 3) hx hb dX8_put_43 (by decide) ?_
  refine lv_iload_n hx hb dX8_put_3 rfl (lv_at hl 0 rfl) ?_
  refine lv_if_lt (tgt := 46) hx hb dX8_put_4 (by decide) (fun c_13 => absurd c_13 (by decide)) (fun _ => ?_)
  refine lv_aload_n hx hb dX8_put_7 rfl (lv_at hl 1 rfl) ?_
  refine va_get (D := D) (ci := 8) (v := .int 10) (C := RX8) (T := TX8) (N := 2) hx hb hts iw_X8_put_X8 hown hK hP 0 rfl rfl 1 (by decide) (hts (.fieldLink RX8 15 "SoldHouse$Tape" "size" "I") (List.mem_of_getElem? (i := 1) rfl)) (fun _ h9 => h9) rfl dX8_put_8 ?_
  refine lv_sipush (v := 1600) hx hb dX8_put_11 (by decide) ?_
  refine lv_icmp_ge (tgt := 40) hx hb dX8_put_14 (by decide) (fun c_14 => absurd c_14 (by decide)) (fun _ => ?_)
  refine lv_aload_n hx hb dX8_put_17 rfl (lv_at hl 1 rfl) ?_
  refine va_get (D := D) (ci := 8) (v := .ref tb) (C := RX8) (T := TX8) (N := 2) hx hb hts iw_X8_put_X8 hown hK hP 0 rfl rfl 0 (by decide) (hts (.fieldLink RX8 9 "SoldHouse$Tape" "bytes" "[B") (List.mem_of_getElem? (i := 2) rfl)) (fun _ h9 => h9) rfl dX8_put_18 ?_
  refine lv_aload_n hx hb dX8_put_21 rfl (lv_at hl 1 rfl) ?_
  refine va_get (D := D) (ci := 8) (v := .int 10) (C := RX8) (T := TX8) (N := 2) hx hb hts iw_X8_put_X8 hown hK hP 0 rfl rfl 1 (by decide) (hts (.fieldLink RX8 15 "SoldHouse$Tape" "size" "I") (List.mem_of_getElem? (i := 1) rfl)) (fun _ h9 => h9) rfl dX8_put_22 ?_
  refine lv_iload_n hx hb dX8_put_25 rfl (lv_at hl 2 rfl) ?_
  refine lv_iload_n hx hb dX8_put_26 rfl (lv_at hl 0 rfl) ?_
  refine lv_ishr hx hb dX8_put_27 ?_
  refine lv_topi (fun y_15 ey_15 => ?_)
  refine lv_i2b hx hb dX8_put_28 rfl ?_
  refine lv_topi (fun y_16 ey_16 => ?_)
  refine va_bast hx hb hK hP hD hS 1 1 rfl rfl (show vp_in 10 1600 from (by decide : ¬ ((10 : Int32) < 0 ∨ 1600 ≤ Int32.toNatClampNeg 10))) dX8_put_29 (fun H locs hP hD hS => ?_)
  replace hP : va_P D classes [(a0, .inr (8, [.ref tb, .int 10])), (tb, .inl (cB, 1600, .inl (upd g_11 (Int32.toNatClampNeg 10) (vp_nar .byte y_16))))] H := hP
  replace hD : va_D A [(a0, .inr (8, [.ref tb, .int 10])), (tb, .inl (cB, 1600, .inl (upd g_11 (Int32.toNatClampNeg 10) (vp_nar .byte y_16))))] := hD
  generalize eg_17 : upd g_11 (Int32.toNatClampNeg 10) (vp_nar .byte y_16) = g_17 at hP hD
  clear eg_17
  refine lv_aload_n hx hb dX8_put_30 rfl (lv_at hl 1 rfl) ?_
  refine lv_dup hx hb dX8_put_31 rfl ?_
  refine va_get (D := D) (ci := 8) (v := .int 10) (C := RX8) (T := TX8) (N := 2) hx hb hts iw_X8_put_X8 hown hK hP 0 rfl rfl 1 (by decide) (hts (.fieldLink RX8 15 "SoldHouse$Tape" "size" "I") (List.mem_of_getElem? (i := 1) rfl)) (fun _ h9 => h9) rfl dX8_put_32 ?_
  refine lv_iconst (v := 1) hx hb dX8_put_35 (by decide) ?_
  refine lv_iadd hx hb dX8_put_36 ?_
  refine lv_topi (fun y_18 ey_18 => ?_)
  obtain rfl : y_18 = 11 := ey_18.trans (by decide)
  refine va_put (D := D) (ci := 8) (v := .int 11) (ty := tyX8 1) (C := RX8) (T := TX8) (N := 2) hx hb hts iw_X8_put_X8 tyX8 tyX8_ok nmX8 hown hK hP hD hS 0 rfl rfl 1 (by decide) (hts (.fieldLink RX8 15 "SoldHouse$Tape" "size" "I") (List.mem_of_getElem? (i := 1) rfl)) (fun _ h9 => h9) rfl (by decide +kernel) rfl rfl (Nat.le_of_ble_eq_true rfl) dX8_put_37 (fun H locs hP hD hS => ?_)
  replace hP : va_P D classes [(a0, .inr (8, [.ref tb, .int 11])), (tb, .inl (cB, 1600, .inl g_17))] H := hP
  replace hD : va_D A [(a0, .inr (8, [.ref tb, .int 11])), (tb, .inl (cB, 1600, .inl g_17))] := hD
  refine lv_iinc (v := 0) (lv' := [(2, .int 0), (0, .ref a0), (1, .int x)]) hx hb dX8_put_40 hl (k := 0) rfl (by decide) (by decide) rfl (fun ls hl => ?_)
  refine lv_goto (tgt := 3) hx hb dX8_put_43 (by decide) ?_
  refine lv_iload_n hx hb dX8_put_3 rfl (lv_at hl 0 rfl) ?_
  refine lv_if_lt (tgt := 46) hx hb dX8_put_4 (by decide) (fun c_19 => absurd c_19 (by decide)) (fun _ => ?_)
  refine lv_aload_n hx hb dX8_put_7 rfl (lv_at hl 1 rfl) ?_
  refine va_get (D := D) (ci := 8) (v := .int 11) (C := RX8) (T := TX8) (N := 2) hx hb hts iw_X8_put_X8 hown hK hP 0 rfl rfl 1 (by decide) (hts (.fieldLink RX8 15 "SoldHouse$Tape" "size" "I") (List.mem_of_getElem? (i := 1) rfl)) (fun _ h9 => h9) rfl dX8_put_8 ?_
  refine lv_sipush (v := 1600) hx hb dX8_put_11 (by decide) ?_
  refine lv_icmp_ge (tgt := 40) hx hb dX8_put_14 (by decide) (fun c_20 => absurd c_20 (by decide)) (fun _ => ?_)
  refine lv_aload_n hx hb dX8_put_17 rfl (lv_at hl 1 rfl) ?_
  refine va_get (D := D) (ci := 8) (v := .ref tb) (C := RX8) (T := TX8) (N := 2) hx hb hts iw_X8_put_X8 hown hK hP 0 rfl rfl 0 (by decide) (hts (.fieldLink RX8 9 "SoldHouse$Tape" "bytes" "[B") (List.mem_of_getElem? (i := 2) rfl)) (fun _ h9 => h9) rfl dX8_put_18 ?_
  refine lv_aload_n hx hb dX8_put_21 rfl (lv_at hl 1 rfl) ?_
  refine va_get (D := D) (ci := 8) (v := .int 11) (C := RX8) (T := TX8) (N := 2) hx hb hts iw_X8_put_X8 hown hK hP 0 rfl rfl 1 (by decide) (hts (.fieldLink RX8 15 "SoldHouse$Tape" "size" "I") (List.mem_of_getElem? (i := 1) rfl)) (fun _ h9 => h9) rfl dX8_put_22 ?_
  refine lv_iload_n hx hb dX8_put_25 rfl (lv_at hl 2 rfl) ?_
  refine lv_iload_n hx hb dX8_put_26 rfl (lv_at hl 0 rfl) ?_
  refine lv_ishr hx hb dX8_put_27 ?_
  refine lv_topi (fun y_21 ey_21 => ?_)
  refine lv_i2b hx hb dX8_put_28 rfl ?_
  refine lv_topi (fun y_22 ey_22 => ?_)
  refine va_bast hx hb hK hP hD hS 1 1 rfl rfl (show vp_in 11 1600 from (by decide : ¬ ((11 : Int32) < 0 ∨ 1600 ≤ Int32.toNatClampNeg 11))) dX8_put_29 (fun H locs hP hD hS => ?_)
  replace hP : va_P D classes [(a0, .inr (8, [.ref tb, .int 11])), (tb, .inl (cB, 1600, .inl (upd g_17 (Int32.toNatClampNeg 11) (vp_nar .byte y_22))))] H := hP
  replace hD : va_D A [(a0, .inr (8, [.ref tb, .int 11])), (tb, .inl (cB, 1600, .inl (upd g_17 (Int32.toNatClampNeg 11) (vp_nar .byte y_22))))] := hD
  generalize eg_23 : upd g_17 (Int32.toNatClampNeg 11) (vp_nar .byte y_22) = g_23 at hP hD
  clear eg_23
  refine lv_aload_n hx hb dX8_put_30 rfl (lv_at hl 1 rfl) ?_
  refine lv_dup hx hb dX8_put_31 rfl ?_
  refine va_get (D := D) (ci := 8) (v := .int 11) (C := RX8) (T := TX8) (N := 2) hx hb hts iw_X8_put_X8 hown hK hP 0 rfl rfl 1 (by decide) (hts (.fieldLink RX8 15 "SoldHouse$Tape" "size" "I") (List.mem_of_getElem? (i := 1) rfl)) (fun _ h9 => h9) rfl dX8_put_32 ?_
  refine lv_iconst (v := 1) hx hb dX8_put_35 (by decide) ?_
  refine lv_iadd hx hb dX8_put_36 ?_
  refine lv_topi (fun y_24 ey_24 => ?_)
  obtain rfl : y_24 = 12 := ey_24.trans (by decide)
  refine va_put (D := D) (ci := 8) (v := .int 12) (ty := tyX8 1) (C := RX8) (T := TX8) (N := 2) hx hb hts iw_X8_put_X8 tyX8 tyX8_ok nmX8 hown hK hP hD hS 0 rfl rfl 1 (by decide) (hts (.fieldLink RX8 15 "SoldHouse$Tape" "size" "I") (List.mem_of_getElem? (i := 1) rfl)) (fun _ h9 => h9) rfl (by decide +kernel) rfl rfl (Nat.le_of_ble_eq_true rfl) dX8_put_37 (fun H locs hP hD hS => ?_)
  replace hP : va_P D classes [(a0, .inr (8, [.ref tb, .int 12])), (tb, .inl (cB, 1600, .inl g_23))] H := hP
  replace hD : va_D A [(a0, .inr (8, [.ref tb, .int 12])), (tb, .inl (cB, 1600, .inl g_23))] := hD
  refine lv_iinc (v := (-8)) (lv' := [(2, .int (-8)), (0, .ref a0), (1, .int x)]) hx hb dX8_put_40 hl (k := 0) rfl (by decide) (by decide) rfl (fun ls hl => ?_)
  refine lv_goto (tgt := 3) hx hb dX8_put_43 (by decide) ?_
  refine lv_iload_n hx hb dX8_put_3 rfl (lv_at hl 0 rfl) ?_
  refine lv_if_lt (tgt := 46) hx hb dX8_put_4 (by decide) (fun _ => ?_) (fun c_25 => absurd (by decide) c_25)
  have hP9 := hP.sub (ws' := [(a0, .inr (8, [.ref tb, .int 12])), (tb, .inl (cB, 1600, .inl g_23))]) [0, 1] rfl
  have hD9 := hD.sub (ws' := [(a0, .inr (8, [.ref tb, .int 12])), (tb, .inl (cB, 1600, .inl g_23))]) [0, 1] (by decide) rfl
  refine W.widen (k := 0) (n := 0) (Nat.le_of_ble_eq_true rfl) (Nat.le_of_ble_eq_true rfl) ?_
  exact W.vret hx hb hr (fun t ht hW => ⟨⟨(), rfl, trivial, ⟨g_23, by rw [ht]; exact hP9, hD9⟩⟩, hS.F ht⟩) hS.2.2 dX8_put_46
set_option maxHeartbeats 4000000 in
set_option maxRecDepth 100000 in
theorem c_put12 (l : Launch) (D : va_G) (cI : ClassId) (cB : ClassId) (cL : ClassId) (cZ : ClassId) (a0 : Nat) (tb : Nat) (fb : Nat → Int32) (x : Int32) (sz : Nat) : Met l yX8_put wsX8_put ({ frames := 0, cells := 0, slots := 0, locals := 0 }) (xp D [(cI, .int), (cB, .byte), (cL, .long), (cZ, .boolean)] [(a0, .inr (8, [.ref tb, .int 12])), (tb, .inl (cB, 1600, .inl fb))] sz [] [.ref a0, .int x]) (va_Qv (fun _ : Unit => True) (fun (_ : Unit) (t : State) => ∃ (g : Nat → Int32), xB D (va_A [(a0, .inr (8, [.ref tb, .int 12])), (tb, .inl (cB, 1600, .inl fb))] sz) [(a0, .inr (8, [.ref tb, .int 16])), (tb, .inl (cB, 1600, .inl g))] t) (va_A [(a0, .inr (8, [.ref tb, .int 12])), (tb, .inl (cB, 1600, .inl fb))] sz)) 0 0 (va_A [(a0, .inr (8, [.ref tb, .int 12])), (tb, .inl (cB, 1600, .inl fb))] sz) := by
  refine Met.ofW (cc := cX8_put) (maxL := 3) (ret := none) (by decide) rfl ?_
  intro p e s m args below meth c s₁ B hml hv
  obtain ⟨rfl, hsz, hP, hK, hD0, hNw⟩ := hv
  have hx := B.exec
  have hb := B.bytes
  have hr := B.returns
  have hts := atoms_spec (ws := wsX8_put) B.pre
  have hown : s.vm.findClass RX8 = some m.cls := findClass_of_methodNamed B.named
  have hlocks := B.notSynchronized
  subst hsz
  have hD := hD0.self (sz := s.heap.size)
  clear hD0
  generalize hAe : va_A [(a0, .inr (8, [.ref tb, .int 12])), (tb, .inl (cB, 1600, .inl fb))] s.heap.size = A at hD ⊢
  have hA : ∀ q : Nat, s.heap.size ≤ q → A q := fun q h => by rw [← hAe]; exact Or.inr h
  have hS : va_S A s.heap s.heap [] := va_S.rf
  clear hAe
  obtain ⟨H, hH⟩ : ∃ H : Heap, H = s.heap := ⟨_, rfl⟩
  obtain ⟨locs, hlocs⟩ : ∃ L : List Loc, L = [] := ⟨_, rfl⟩
  replace hP : va_P D classes [(a0, .inr (8, [.ref tb, .int 12])), (tb, .inl (cB, 1600, .inl fb))] H := by rw [hH]; exact hP
  replace hS : va_S A s.heap H locs := by rw [hH, hlocs]; exact hS
  rw [← hH, ← hlocs]
  clear hlocs hH
  have hl := lv_entry ([.ref a0, .int x]) (n := 3) (Nat.le_of_ble_eq_true rfl)
  rw [lg_entry_eq]
  generalize (lg_sl ([.ref a0, .int x]) ++ List.replicate (3 - (lg_sl ([.ref a0, .int x])).length) Slot.unset).toArray = ls at hl ⊢
  replace hl : lv_has ls 3 [(0, .ref a0), (1, .int x)] := hl
  refine lv_bipush (v := 24) hx hb dX8_put_0 (by decide) ?_
  refine lv_istore_n (lv' := [(2, .int 24), (0, .ref a0), (1, .int x)]) hx hb dX8_put_2 rfl hl (by decide) rfl (fun ls hl => ?_)
  refine lv_iload_n hx hb dX8_put_3 rfl (lv_at hl 0 rfl) ?_
  refine lv_if_lt (tgt := 46) hx hb dX8_put_4 (by decide) (fun c_1 => absurd c_1 (by decide)) (fun _ => ?_)
  refine lv_aload_n hx hb dX8_put_7 rfl (lv_at hl 1 rfl) ?_
  refine va_get (D := D) (ci := 8) (v := .int 12) (C := RX8) (T := TX8) (N := 2) hx hb hts iw_X8_put_X8 hown hK hP 0 rfl rfl 1 (by decide) (hts (.fieldLink RX8 15 "SoldHouse$Tape" "size" "I") (List.mem_of_getElem? (i := 1) rfl)) (fun _ h9 => h9) rfl dX8_put_8 ?_
  refine lv_sipush (v := 1600) hx hb dX8_put_11 (by decide) ?_
  refine lv_icmp_ge (tgt := 40) hx hb dX8_put_14 (by decide) (fun c_2 => absurd c_2 (by decide)) (fun _ => ?_)
  refine lv_aload_n hx hb dX8_put_17 rfl (lv_at hl 1 rfl) ?_
  refine va_get (D := D) (ci := 8) (v := .ref tb) (C := RX8) (T := TX8) (N := 2) hx hb hts iw_X8_put_X8 hown hK hP 0 rfl rfl 0 (by decide) (hts (.fieldLink RX8 9 "SoldHouse$Tape" "bytes" "[B") (List.mem_of_getElem? (i := 2) rfl)) (fun _ h9 => h9) rfl dX8_put_18 ?_
  refine lv_aload_n hx hb dX8_put_21 rfl (lv_at hl 1 rfl) ?_
  refine va_get (D := D) (ci := 8) (v := .int 12) (C := RX8) (T := TX8) (N := 2) hx hb hts iw_X8_put_X8 hown hK hP 0 rfl rfl 1 (by decide) (hts (.fieldLink RX8 15 "SoldHouse$Tape" "size" "I") (List.mem_of_getElem? (i := 1) rfl)) (fun _ h9 => h9) rfl dX8_put_22 ?_
  refine lv_iload_n hx hb dX8_put_25 rfl (lv_at hl 2 rfl) ?_
  refine lv_iload_n hx hb dX8_put_26 rfl (lv_at hl 0 rfl) ?_
  refine lv_ishr hx hb dX8_put_27 ?_
  refine lv_topi (fun y_3 ey_3 => ?_)
  refine lv_i2b hx hb dX8_put_28 rfl ?_
  refine lv_topi (fun y_4 ey_4 => ?_)
  refine va_bast hx hb hK hP hD hS 1 1 rfl rfl (show vp_in 12 1600 from (by decide : ¬ ((12 : Int32) < 0 ∨ 1600 ≤ Int32.toNatClampNeg 12))) dX8_put_29 (fun H locs hP hD hS => ?_)
  replace hP : va_P D classes [(a0, .inr (8, [.ref tb, .int 12])), (tb, .inl (cB, 1600, .inl (upd fb (Int32.toNatClampNeg 12) (vp_nar .byte y_4))))] H := hP
  replace hD : va_D A [(a0, .inr (8, [.ref tb, .int 12])), (tb, .inl (cB, 1600, .inl (upd fb (Int32.toNatClampNeg 12) (vp_nar .byte y_4))))] := hD
  generalize eg_5 : upd fb (Int32.toNatClampNeg 12) (vp_nar .byte y_4) = g_5 at hP hD
  clear eg_5
  refine lv_aload_n hx hb dX8_put_30 rfl (lv_at hl 1 rfl) ?_
  refine lv_dup hx hb dX8_put_31 rfl ?_
  refine va_get (D := D) (ci := 8) (v := .int 12) (C := RX8) (T := TX8) (N := 2) hx hb hts iw_X8_put_X8 hown hK hP 0 rfl rfl 1 (by decide) (hts (.fieldLink RX8 15 "SoldHouse$Tape" "size" "I") (List.mem_of_getElem? (i := 1) rfl)) (fun _ h9 => h9) rfl dX8_put_32 ?_
  refine lv_iconst (v := 1) hx hb dX8_put_35 (by decide) ?_
  refine lv_iadd hx hb dX8_put_36 ?_
  refine lv_topi (fun y_6 ey_6 => ?_)
  obtain rfl : y_6 = 13 := ey_6.trans (by decide)
  refine va_put (D := D) (ci := 8) (v := .int 13) (ty := tyX8 1) (C := RX8) (T := TX8) (N := 2) hx hb hts iw_X8_put_X8 tyX8 tyX8_ok nmX8 hown hK hP hD hS 0 rfl rfl 1 (by decide) (hts (.fieldLink RX8 15 "SoldHouse$Tape" "size" "I") (List.mem_of_getElem? (i := 1) rfl)) (fun _ h9 => h9) rfl (by decide +kernel) rfl rfl (Nat.le_of_ble_eq_true rfl) dX8_put_37 (fun H locs hP hD hS => ?_)
  replace hP : va_P D classes [(a0, .inr (8, [.ref tb, .int 13])), (tb, .inl (cB, 1600, .inl g_5))] H := hP
  replace hD : va_D A [(a0, .inr (8, [.ref tb, .int 13])), (tb, .inl (cB, 1600, .inl g_5))] := hD
  refine lv_iinc (v := 16) (lv' := [(2, .int 16), (0, .ref a0), (1, .int x)]) hx hb dX8_put_40 hl (k := 0) rfl (by decide) (by decide) rfl (fun ls hl => ?_)
  refine lv_goto (tgt := 3) hx hb dX8_put_43 (by decide) ?_
  refine lv_iload_n hx hb dX8_put_3 rfl (lv_at hl 0 rfl) ?_
  refine lv_if_lt (tgt := 46) hx hb dX8_put_4 (by decide) (fun c_7 => absurd c_7 (by decide)) (fun _ => ?_)
  refine lv_aload_n hx hb dX8_put_7 rfl (lv_at hl 1 rfl) ?_
  refine va_get (D := D) (ci := 8) (v := .int 13) (C := RX8) (T := TX8) (N := 2) hx hb hts iw_X8_put_X8 hown hK hP 0 rfl rfl 1 (by decide) (hts (.fieldLink RX8 15 "SoldHouse$Tape" "size" "I") (List.mem_of_getElem? (i := 1) rfl)) (fun _ h9 => h9) rfl dX8_put_8 ?_
  refine lv_sipush (v := 1600) hx hb dX8_put_11 (by decide) ?_
  refine lv_icmp_ge (tgt := 40) hx hb dX8_put_14 (by decide) (fun c_8 => absurd c_8 (by decide)) (fun _ => ?_)
  refine lv_aload_n hx hb dX8_put_17 rfl (lv_at hl 1 rfl) ?_
  refine va_get (D := D) (ci := 8) (v := .ref tb) (C := RX8) (T := TX8) (N := 2) hx hb hts iw_X8_put_X8 hown hK hP 0 rfl rfl 0 (by decide) (hts (.fieldLink RX8 9 "SoldHouse$Tape" "bytes" "[B") (List.mem_of_getElem? (i := 2) rfl)) (fun _ h9 => h9) rfl dX8_put_18 ?_
  refine lv_aload_n hx hb dX8_put_21 rfl (lv_at hl 1 rfl) ?_
  refine va_get (D := D) (ci := 8) (v := .int 13) (C := RX8) (T := TX8) (N := 2) hx hb hts iw_X8_put_X8 hown hK hP 0 rfl rfl 1 (by decide) (hts (.fieldLink RX8 15 "SoldHouse$Tape" "size" "I") (List.mem_of_getElem? (i := 1) rfl)) (fun _ h9 => h9) rfl dX8_put_22 ?_
  refine lv_iload_n hx hb dX8_put_25 rfl (lv_at hl 2 rfl) ?_
  refine lv_iload_n hx hb dX8_put_26 rfl (lv_at hl 0 rfl) ?_
  refine lv_ishr hx hb dX8_put_27 ?_
  refine lv_topi (fun y_9 ey_9 => ?_)
  refine lv_i2b hx hb dX8_put_28 rfl ?_
  refine lv_topi (fun y_10 ey_10 => ?_)
  refine va_bast hx hb hK hP hD hS 1 1 rfl rfl (show vp_in 13 1600 from (by decide : ¬ ((13 : Int32) < 0 ∨ 1600 ≤ Int32.toNatClampNeg 13))) dX8_put_29 (fun H locs hP hD hS => ?_)
  replace hP : va_P D classes [(a0, .inr (8, [.ref tb, .int 13])), (tb, .inl (cB, 1600, .inl (upd g_5 (Int32.toNatClampNeg 13) (vp_nar .byte y_10))))] H := hP
  replace hD : va_D A [(a0, .inr (8, [.ref tb, .int 13])), (tb, .inl (cB, 1600, .inl (upd g_5 (Int32.toNatClampNeg 13) (vp_nar .byte y_10))))] := hD
  generalize eg_11 : upd g_5 (Int32.toNatClampNeg 13) (vp_nar .byte y_10) = g_11 at hP hD
  clear eg_11
  refine lv_aload_n hx hb dX8_put_30 rfl (lv_at hl 1 rfl) ?_
  refine lv_dup hx hb dX8_put_31 rfl ?_
  refine va_get (D := D) (ci := 8) (v := .int 13) (C := RX8) (T := TX8) (N := 2) hx hb hts iw_X8_put_X8 hown hK hP 0 rfl rfl 1 (by decide) (hts (.fieldLink RX8 15 "SoldHouse$Tape" "size" "I") (List.mem_of_getElem? (i := 1) rfl)) (fun _ h9 => h9) rfl dX8_put_32 ?_
  refine lv_iconst (v := 1) hx hb dX8_put_35 (by decide) ?_
  refine lv_iadd hx hb dX8_put_36 ?_
  refine lv_topi (fun y_12 ey_12 => ?_)
  obtain rfl : y_12 = 14 := ey_12.trans (by decide)
  refine va_put (D := D) (ci := 8) (v := .int 14) (ty := tyX8 1) (C := RX8) (T := TX8) (N := 2) hx hb hts iw_X8_put_X8 tyX8 tyX8_ok nmX8 hown hK hP hD hS 0 rfl rfl 1 (by decide) (hts (.fieldLink RX8 15 "SoldHouse$Tape" "size" "I") (List.mem_of_getElem? (i := 1) rfl)) (fun _ h9 => h9) rfl (by decide +kernel) rfl rfl (Nat.le_of_ble_eq_true rfl) dX8_put_37 (fun H locs hP hD hS => ?_)
  replace hP : va_P D classes [(a0, .inr (8, [.ref tb, .int 14])), (tb, .inl (cB, 1600, .inl g_11))] H := hP
  replace hD : va_D A [(a0, .inr (8, [.ref tb, .int 14])), (tb, .inl (cB, 1600, .inl g_11))] := hD
  refine lv_iinc (v := 8) (lv' := [(2, .int 8), (0, .ref a0), (1, .int x)]) hx hb dX8_put_40 hl (k := 0) rfl (by decide) (by decide) rfl (fun ls hl => ?_)
  refine lv_goto (tgt := 3) hx hb dX8_put_43 (by decide) ?_
  refine lv_iload_n hx hb dX8_put_3 rfl (lv_at hl 0 rfl) ?_
  refine lv_if_lt (tgt := 46) hx hb dX8_put_4 (by decide) (fun c_13 => absurd c_13 (by decide)) (fun _ => ?_)
  refine lv_aload_n hx hb dX8_put_7 rfl (lv_at hl 1 rfl) ?_
  refine va_get (D := D) (ci := 8) (v := .int 14) (C := RX8) (T := TX8) (N := 2) hx hb hts iw_X8_put_X8 hown hK hP 0 rfl rfl 1 (by decide) (hts (.fieldLink RX8 15 "SoldHouse$Tape" "size" "I") (List.mem_of_getElem? (i := 1) rfl)) (fun _ h9 => h9) rfl dX8_put_8 ?_
  refine lv_sipush (v := 1600) hx hb dX8_put_11 (by decide) ?_
  refine lv_icmp_ge (tgt := 40) hx hb dX8_put_14 (by decide) (fun c_14 => absurd c_14 (by decide)) (fun _ => ?_)
  refine lv_aload_n hx hb dX8_put_17 rfl (lv_at hl 1 rfl) ?_
  refine va_get (D := D) (ci := 8) (v := .ref tb) (C := RX8) (T := TX8) (N := 2) hx hb hts iw_X8_put_X8 hown hK hP 0 rfl rfl 0 (by decide) (hts (.fieldLink RX8 9 "SoldHouse$Tape" "bytes" "[B") (List.mem_of_getElem? (i := 2) rfl)) (fun _ h9 => h9) rfl dX8_put_18 ?_
  refine lv_aload_n hx hb dX8_put_21 rfl (lv_at hl 1 rfl) ?_
  refine va_get (D := D) (ci := 8) (v := .int 14) (C := RX8) (T := TX8) (N := 2) hx hb hts iw_X8_put_X8 hown hK hP 0 rfl rfl 1 (by decide) (hts (.fieldLink RX8 15 "SoldHouse$Tape" "size" "I") (List.mem_of_getElem? (i := 1) rfl)) (fun _ h9 => h9) rfl dX8_put_22 ?_
  refine lv_iload_n hx hb dX8_put_25 rfl (lv_at hl 2 rfl) ?_
  refine lv_iload_n hx hb dX8_put_26 rfl (lv_at hl 0 rfl) ?_
  refine lv_ishr hx hb dX8_put_27 ?_
  refine lv_topi (fun y_15 ey_15 => ?_)
  refine lv_i2b hx hb dX8_put_28 rfl ?_
  refine lv_topi (fun y_16 ey_16 => ?_)
  refine va_bast hx hb hK hP hD hS 1 1 rfl rfl (show vp_in 14 1600 from (by decide : ¬ ((14 : Int32) < 0 ∨ 1600 ≤ Int32.toNatClampNeg 14))) dX8_put_29 (fun H locs hP hD hS => ?_)
  replace hP : va_P D classes [(a0, .inr (8, [.ref tb, .int 14])), (tb, .inl (cB, 1600, .inl (upd g_11 (Int32.toNatClampNeg 14) (vp_nar .byte y_16))))] H := hP
  replace hD : va_D A [(a0, .inr (8, [.ref tb, .int 14])), (tb, .inl (cB, 1600, .inl (upd g_11 (Int32.toNatClampNeg 14) (vp_nar .byte y_16))))] := hD
  generalize eg_17 : upd g_11 (Int32.toNatClampNeg 14) (vp_nar .byte y_16) = g_17 at hP hD
  clear eg_17
  refine lv_aload_n hx hb dX8_put_30 rfl (lv_at hl 1 rfl) ?_
  refine lv_dup hx hb dX8_put_31 rfl ?_
  refine va_get (D := D) (ci := 8) (v := .int 14) (C := RX8) (T := TX8) (N := 2) hx hb hts iw_X8_put_X8 hown hK hP 0 rfl rfl 1 (by decide) (hts (.fieldLink RX8 15 "SoldHouse$Tape" "size" "I") (List.mem_of_getElem? (i := 1) rfl)) (fun _ h9 => h9) rfl dX8_put_32 ?_
  refine lv_iconst (v := 1) hx hb dX8_put_35 (by decide) ?_
  refine lv_iadd hx hb dX8_put_36 ?_
  refine lv_topi (fun y_18 ey_18 => ?_)
  obtain rfl : y_18 = 15 := ey_18.trans (by decide)
  refine va_put (D := D) (ci := 8) (v := .int 15) (ty := tyX8 1) (C := RX8) (T := TX8) (N := 2) hx hb hts iw_X8_put_X8 tyX8 tyX8_ok nmX8 hown hK hP hD hS 0 rfl rfl 1 (by decide) (hts (.fieldLink RX8 15 "SoldHouse$Tape" "size" "I") (List.mem_of_getElem? (i := 1) rfl)) (fun _ h9 => h9) rfl (by decide +kernel) rfl rfl (Nat.le_of_ble_eq_true rfl) dX8_put_37 (fun H locs hP hD hS => ?_)
  replace hP : va_P D classes [(a0, .inr (8, [.ref tb, .int 15])), (tb, .inl (cB, 1600, .inl g_17))] H := hP
  replace hD : va_D A [(a0, .inr (8, [.ref tb, .int 15])), (tb, .inl (cB, 1600, .inl g_17))] := hD
  refine lv_iinc (v := 0) (lv' := [(2, .int 0), (0, .ref a0), (1, .int x)]) hx hb dX8_put_40 hl (k := 0) rfl (by decide) (by decide) rfl (fun ls hl => ?_)
  refine lv_goto (tgt := 3) hx hb dX8_put_43 (by decide) ?_
  refine lv_iload_n hx hb dX8_put_3 rfl (lv_at hl 0 rfl) ?_
  refine lv_if_lt (tgt := 46) hx hb dX8_put_4 (by decide) (fun c_19 => absurd c_19 (by decide)) (fun _ => ?_)
  refine lv_aload_n hx hb dX8_put_7 rfl (lv_at hl 1 rfl) ?_
  refine va_get (D := D) (ci := 8) (v := .int 15) (C := RX8) (T := TX8) (N := 2) hx hb hts iw_X8_put_X8 hown hK hP 0 rfl rfl 1 (by decide) (hts (.fieldLink RX8 15 "SoldHouse$Tape" "size" "I") (List.mem_of_getElem? (i := 1) rfl)) (fun _ h9 => h9) rfl dX8_put_8 ?_
  refine lv_sipush (v := 1600) hx hb dX8_put_11 (by decide) ?_
  refine lv_icmp_ge (tgt := 40) hx hb dX8_put_14 (by decide) (fun c_20 => absurd c_20 (by decide)) (fun _ => ?_)
  refine lv_aload_n hx hb dX8_put_17 rfl (lv_at hl 1 rfl) ?_
  refine va_get (D := D) (ci := 8) (v := .ref tb) (C := RX8) (T := TX8) (N := 2) hx hb hts iw_X8_put_X8 hown hK hP 0 rfl rfl 0 (by decide) (hts (.fieldLink RX8 9 "SoldHouse$Tape" "bytes" "[B") (List.mem_of_getElem? (i := 2) rfl)) (fun _ h9 => h9) rfl dX8_put_18 ?_
  refine lv_aload_n hx hb dX8_put_21 rfl (lv_at hl 1 rfl) ?_
  refine va_get (D := D) (ci := 8) (v := .int 15) (C := RX8) (T := TX8) (N := 2) hx hb hts iw_X8_put_X8 hown hK hP 0 rfl rfl 1 (by decide) (hts (.fieldLink RX8 15 "SoldHouse$Tape" "size" "I") (List.mem_of_getElem? (i := 1) rfl)) (fun _ h9 => h9) rfl dX8_put_22 ?_
  refine lv_iload_n hx hb dX8_put_25 rfl (lv_at hl 2 rfl) ?_
  refine lv_iload_n hx hb dX8_put_26 rfl (lv_at hl 0 rfl) ?_
  refine lv_ishr hx hb dX8_put_27 ?_
  refine lv_topi (fun y_21 ey_21 => ?_)
  refine lv_i2b hx hb dX8_put_28 rfl ?_
  refine lv_topi (fun y_22 ey_22 => ?_)
  refine va_bast hx hb hK hP hD hS 1 1 rfl rfl (show vp_in 15 1600 from (by decide : ¬ ((15 : Int32) < 0 ∨ 1600 ≤ Int32.toNatClampNeg 15))) dX8_put_29 (fun H locs hP hD hS => ?_)
  replace hP : va_P D classes [(a0, .inr (8, [.ref tb, .int 15])), (tb, .inl (cB, 1600, .inl (upd g_17 (Int32.toNatClampNeg 15) (vp_nar .byte y_22))))] H := hP
  replace hD : va_D A [(a0, .inr (8, [.ref tb, .int 15])), (tb, .inl (cB, 1600, .inl (upd g_17 (Int32.toNatClampNeg 15) (vp_nar .byte y_22))))] := hD
  generalize eg_23 : upd g_17 (Int32.toNatClampNeg 15) (vp_nar .byte y_22) = g_23 at hP hD
  clear eg_23
  refine lv_aload_n hx hb dX8_put_30 rfl (lv_at hl 1 rfl) ?_
  refine lv_dup hx hb dX8_put_31 rfl ?_
  refine va_get (D := D) (ci := 8) (v := .int 15) (C := RX8) (T := TX8) (N := 2) hx hb hts iw_X8_put_X8 hown hK hP 0 rfl rfl 1 (by decide) (hts (.fieldLink RX8 15 "SoldHouse$Tape" "size" "I") (List.mem_of_getElem? (i := 1) rfl)) (fun _ h9 => h9) rfl dX8_put_32 ?_
  refine lv_iconst (v := 1) hx hb dX8_put_35 (by decide) ?_
  refine lv_iadd hx hb dX8_put_36 ?_
  refine lv_topi (fun y_24 ey_24 => ?_)
  obtain rfl : y_24 = 16 := ey_24.trans (by decide)
  refine va_put (D := D) (ci := 8) (v := .int 16) (ty := tyX8 1) (C := RX8) (T := TX8) (N := 2) hx hb hts iw_X8_put_X8 tyX8 tyX8_ok nmX8 hown hK hP hD hS 0 rfl rfl 1 (by decide) (hts (.fieldLink RX8 15 "SoldHouse$Tape" "size" "I") (List.mem_of_getElem? (i := 1) rfl)) (fun _ h9 => h9) rfl (by decide +kernel) rfl rfl (Nat.le_of_ble_eq_true rfl) dX8_put_37 (fun H locs hP hD hS => ?_)
  replace hP : va_P D classes [(a0, .inr (8, [.ref tb, .int 16])), (tb, .inl (cB, 1600, .inl g_23))] H := hP
  replace hD : va_D A [(a0, .inr (8, [.ref tb, .int 16])), (tb, .inl (cB, 1600, .inl g_23))] := hD
  refine lv_iinc (v := (-8)) (lv' := [(2, .int (-8)), (0, .ref a0), (1, .int x)]) hx hb dX8_put_40 hl (k := 0) rfl (by decide) (by decide) rfl (fun ls hl => ?_)
  refine lv_goto (tgt := 3) hx hb dX8_put_43 (by decide) ?_
  refine lv_iload_n hx hb dX8_put_3 rfl (lv_at hl 0 rfl) ?_
  refine lv_if_lt (tgt := 46) hx hb dX8_put_4 (by decide) (fun _ => ?_) (fun c_25 => absurd (by decide) c_25)
  have hP9 := hP.sub (ws' := [(a0, .inr (8, [.ref tb, .int 16])), (tb, .inl (cB, 1600, .inl g_23))]) [0, 1] rfl
  have hD9 := hD.sub (ws' := [(a0, .inr (8, [.ref tb, .int 16])), (tb, .inl (cB, 1600, .inl g_23))]) [0, 1] (by decide) rfl
  refine W.widen (k := 0) (n := 0) (Nat.le_of_ble_eq_true rfl) (Nat.le_of_ble_eq_true rfl) ?_
  exact W.vret hx hb hr (fun t ht hW => ⟨⟨(), rfl, trivial, ⟨g_23, by rw [ht]; exact hP9, hD9⟩⟩, hS.F ht⟩) hS.2.2 dX8_put_46
set_option maxHeartbeats 4000000 in
set_option maxRecDepth 100000 in
theorem c_put16 (l : Launch) (D : va_G) (cI : ClassId) (cB : ClassId) (cL : ClassId) (cZ : ClassId) (a0 : Nat) (tb : Nat) (fb : Nat → Int32) (x : Int32) (sz : Nat) : Met l yX8_put wsX8_put ({ frames := 0, cells := 0, slots := 0, locals := 0 }) (xp D [(cI, .int), (cB, .byte), (cL, .long), (cZ, .boolean)] [(a0, .inr (8, [.ref tb, .int 16])), (tb, .inl (cB, 1600, .inl fb))] sz [] [.ref a0, .int x]) (va_Qv (fun _ : Unit => True) (fun (_ : Unit) (t : State) => ∃ (g : Nat → Int32), xB D (va_A [(a0, .inr (8, [.ref tb, .int 16])), (tb, .inl (cB, 1600, .inl fb))] sz) [(a0, .inr (8, [.ref tb, .int 20])), (tb, .inl (cB, 1600, .inl g))] t) (va_A [(a0, .inr (8, [.ref tb, .int 16])), (tb, .inl (cB, 1600, .inl fb))] sz)) 0 0 (va_A [(a0, .inr (8, [.ref tb, .int 16])), (tb, .inl (cB, 1600, .inl fb))] sz) := by
  refine Met.ofW (cc := cX8_put) (maxL := 3) (ret := none) (by decide) rfl ?_
  intro p e s m args below meth c s₁ B hml hv
  obtain ⟨rfl, hsz, hP, hK, hD0, hNw⟩ := hv
  have hx := B.exec
  have hb := B.bytes
  have hr := B.returns
  have hts := atoms_spec (ws := wsX8_put) B.pre
  have hown : s.vm.findClass RX8 = some m.cls := findClass_of_methodNamed B.named
  have hlocks := B.notSynchronized
  subst hsz
  have hD := hD0.self (sz := s.heap.size)
  clear hD0
  generalize hAe : va_A [(a0, .inr (8, [.ref tb, .int 16])), (tb, .inl (cB, 1600, .inl fb))] s.heap.size = A at hD ⊢
  have hA : ∀ q : Nat, s.heap.size ≤ q → A q := fun q h => by rw [← hAe]; exact Or.inr h
  have hS : va_S A s.heap s.heap [] := va_S.rf
  clear hAe
  obtain ⟨H, hH⟩ : ∃ H : Heap, H = s.heap := ⟨_, rfl⟩
  obtain ⟨locs, hlocs⟩ : ∃ L : List Loc, L = [] := ⟨_, rfl⟩
  replace hP : va_P D classes [(a0, .inr (8, [.ref tb, .int 16])), (tb, .inl (cB, 1600, .inl fb))] H := by rw [hH]; exact hP
  replace hS : va_S A s.heap H locs := by rw [hH, hlocs]; exact hS
  rw [← hH, ← hlocs]
  clear hlocs hH
  have hl := lv_entry ([.ref a0, .int x]) (n := 3) (Nat.le_of_ble_eq_true rfl)
  rw [lg_entry_eq]
  generalize (lg_sl ([.ref a0, .int x]) ++ List.replicate (3 - (lg_sl ([.ref a0, .int x])).length) Slot.unset).toArray = ls at hl ⊢
  replace hl : lv_has ls 3 [(0, .ref a0), (1, .int x)] := hl
  refine lv_bipush (v := 24) hx hb dX8_put_0 (by decide) ?_
  refine lv_istore_n (lv' := [(2, .int 24), (0, .ref a0), (1, .int x)]) hx hb dX8_put_2 rfl hl (by decide) rfl (fun ls hl => ?_)
  refine lv_iload_n hx hb dX8_put_3 rfl (lv_at hl 0 rfl) ?_
  refine lv_if_lt (tgt := 46) hx hb dX8_put_4 (by decide) (fun c_1 => absurd c_1 (by decide)) (fun _ => ?_)
  refine lv_aload_n hx hb dX8_put_7 rfl (lv_at hl 1 rfl) ?_
  refine va_get (D := D) (ci := 8) (v := .int 16) (C := RX8) (T := TX8) (N := 2) hx hb hts iw_X8_put_X8 hown hK hP 0 rfl rfl 1 (by decide) (hts (.fieldLink RX8 15 "SoldHouse$Tape" "size" "I") (List.mem_of_getElem? (i := 1) rfl)) (fun _ h9 => h9) rfl dX8_put_8 ?_
  refine lv_sipush (v := 1600) hx hb dX8_put_11 (by decide) ?_
  refine lv_icmp_ge (tgt := 40) hx hb dX8_put_14 (by decide) (fun c_2 => absurd c_2 (by decide)) (fun _ => ?_)
  refine lv_aload_n hx hb dX8_put_17 rfl (lv_at hl 1 rfl) ?_
  refine va_get (D := D) (ci := 8) (v := .ref tb) (C := RX8) (T := TX8) (N := 2) hx hb hts iw_X8_put_X8 hown hK hP 0 rfl rfl 0 (by decide) (hts (.fieldLink RX8 9 "SoldHouse$Tape" "bytes" "[B") (List.mem_of_getElem? (i := 2) rfl)) (fun _ h9 => h9) rfl dX8_put_18 ?_
  refine lv_aload_n hx hb dX8_put_21 rfl (lv_at hl 1 rfl) ?_
  refine va_get (D := D) (ci := 8) (v := .int 16) (C := RX8) (T := TX8) (N := 2) hx hb hts iw_X8_put_X8 hown hK hP 0 rfl rfl 1 (by decide) (hts (.fieldLink RX8 15 "SoldHouse$Tape" "size" "I") (List.mem_of_getElem? (i := 1) rfl)) (fun _ h9 => h9) rfl dX8_put_22 ?_
  refine lv_iload_n hx hb dX8_put_25 rfl (lv_at hl 2 rfl) ?_
  refine lv_iload_n hx hb dX8_put_26 rfl (lv_at hl 0 rfl) ?_
  refine lv_ishr hx hb dX8_put_27 ?_
  refine lv_topi (fun y_3 ey_3 => ?_)
  refine lv_i2b hx hb dX8_put_28 rfl ?_
  refine lv_topi (fun y_4 ey_4 => ?_)
  refine va_bast hx hb hK hP hD hS 1 1 rfl rfl (show vp_in 16 1600 from (by decide : ¬ ((16 : Int32) < 0 ∨ 1600 ≤ Int32.toNatClampNeg 16))) dX8_put_29 (fun H locs hP hD hS => ?_)
  replace hP : va_P D classes [(a0, .inr (8, [.ref tb, .int 16])), (tb, .inl (cB, 1600, .inl (upd fb (Int32.toNatClampNeg 16) (vp_nar .byte y_4))))] H := hP
  replace hD : va_D A [(a0, .inr (8, [.ref tb, .int 16])), (tb, .inl (cB, 1600, .inl (upd fb (Int32.toNatClampNeg 16) (vp_nar .byte y_4))))] := hD
  generalize eg_5 : upd fb (Int32.toNatClampNeg 16) (vp_nar .byte y_4) = g_5 at hP hD
  clear eg_5
  refine lv_aload_n hx hb dX8_put_30 rfl (lv_at hl 1 rfl) ?_
  refine lv_dup hx hb dX8_put_31 rfl ?_
  refine va_get (D := D) (ci := 8) (v := .int 16) (C := RX8) (T := TX8) (N := 2) hx hb hts iw_X8_put_X8 hown hK hP 0 rfl rfl 1 (by decide) (hts (.fieldLink RX8 15 "SoldHouse$Tape" "size" "I") (List.mem_of_getElem? (i := 1) rfl)) (fun _ h9 => h9) rfl dX8_put_32 ?_
  refine lv_iconst (v := 1) hx hb dX8_put_35 (by decide) ?_
  refine lv_iadd hx hb dX8_put_36 ?_
  refine lv_topi (fun y_6 ey_6 => ?_)
  obtain rfl : y_6 = 17 := ey_6.trans (by decide)
  refine va_put (D := D) (ci := 8) (v := .int 17) (ty := tyX8 1) (C := RX8) (T := TX8) (N := 2) hx hb hts iw_X8_put_X8 tyX8 tyX8_ok nmX8 hown hK hP hD hS 0 rfl rfl 1 (by decide) (hts (.fieldLink RX8 15 "SoldHouse$Tape" "size" "I") (List.mem_of_getElem? (i := 1) rfl)) (fun _ h9 => h9) rfl (by decide +kernel) rfl rfl (Nat.le_of_ble_eq_true rfl) dX8_put_37 (fun H locs hP hD hS => ?_)
  replace hP : va_P D classes [(a0, .inr (8, [.ref tb, .int 17])), (tb, .inl (cB, 1600, .inl g_5))] H := hP
  replace hD : va_D A [(a0, .inr (8, [.ref tb, .int 17])), (tb, .inl (cB, 1600, .inl g_5))] := hD
  refine lv_iinc (v := 16) (lv' := [(2, .int 16), (0, .ref a0), (1, .int x)]) hx hb dX8_put_40 hl (k := 0) rfl (by decide) (by decide) rfl (fun ls hl => ?_)
  refine lv_goto (tgt := 3) hx hb dX8_put_43 (by decide) ?_
  refine lv_iload_n hx hb dX8_put_3 rfl (lv_at hl 0 rfl) ?_
  refine lv_if_lt (tgt := 46) hx hb dX8_put_4 (by decide) (fun c_7 => absurd c_7 (by decide)) (fun _ => ?_)
  refine lv_aload_n hx hb dX8_put_7 rfl (lv_at hl 1 rfl) ?_
  refine va_get (D := D) (ci := 8) (v := .int 17) (C := RX8) (T := TX8) (N := 2) hx hb hts iw_X8_put_X8 hown hK hP 0 rfl rfl 1 (by decide) (hts (.fieldLink RX8 15 "SoldHouse$Tape" "size" "I") (List.mem_of_getElem? (i := 1) rfl)) (fun _ h9 => h9) rfl dX8_put_8 ?_
  refine lv_sipush (v := 1600) hx hb dX8_put_11 (by decide) ?_
  refine lv_icmp_ge (tgt := 40) hx hb dX8_put_14 (by decide) (fun c_8 => absurd c_8 (by decide)) (fun _ => ?_)
  refine lv_aload_n hx hb dX8_put_17 rfl (lv_at hl 1 rfl) ?_
  refine va_get (D := D) (ci := 8) (v := .ref tb) (C := RX8) (T := TX8) (N := 2) hx hb hts iw_X8_put_X8 hown hK hP 0 rfl rfl 0 (by decide) (hts (.fieldLink RX8 9 "SoldHouse$Tape" "bytes" "[B") (List.mem_of_getElem? (i := 2) rfl)) (fun _ h9 => h9) rfl dX8_put_18 ?_
  refine lv_aload_n hx hb dX8_put_21 rfl (lv_at hl 1 rfl) ?_
  refine va_get (D := D) (ci := 8) (v := .int 17) (C := RX8) (T := TX8) (N := 2) hx hb hts iw_X8_put_X8 hown hK hP 0 rfl rfl 1 (by decide) (hts (.fieldLink RX8 15 "SoldHouse$Tape" "size" "I") (List.mem_of_getElem? (i := 1) rfl)) (fun _ h9 => h9) rfl dX8_put_22 ?_
  refine lv_iload_n hx hb dX8_put_25 rfl (lv_at hl 2 rfl) ?_
  refine lv_iload_n hx hb dX8_put_26 rfl (lv_at hl 0 rfl) ?_
  refine lv_ishr hx hb dX8_put_27 ?_
  refine lv_topi (fun y_9 ey_9 => ?_)
  refine lv_i2b hx hb dX8_put_28 rfl ?_
  refine lv_topi (fun y_10 ey_10 => ?_)
  refine va_bast hx hb hK hP hD hS 1 1 rfl rfl (show vp_in 17 1600 from (by decide : ¬ ((17 : Int32) < 0 ∨ 1600 ≤ Int32.toNatClampNeg 17))) dX8_put_29 (fun H locs hP hD hS => ?_)
  replace hP : va_P D classes [(a0, .inr (8, [.ref tb, .int 17])), (tb, .inl (cB, 1600, .inl (upd g_5 (Int32.toNatClampNeg 17) (vp_nar .byte y_10))))] H := hP
  replace hD : va_D A [(a0, .inr (8, [.ref tb, .int 17])), (tb, .inl (cB, 1600, .inl (upd g_5 (Int32.toNatClampNeg 17) (vp_nar .byte y_10))))] := hD
  generalize eg_11 : upd g_5 (Int32.toNatClampNeg 17) (vp_nar .byte y_10) = g_11 at hP hD
  clear eg_11
  refine lv_aload_n hx hb dX8_put_30 rfl (lv_at hl 1 rfl) ?_
  refine lv_dup hx hb dX8_put_31 rfl ?_
  refine va_get (D := D) (ci := 8) (v := .int 17) (C := RX8) (T := TX8) (N := 2) hx hb hts iw_X8_put_X8 hown hK hP 0 rfl rfl 1 (by decide) (hts (.fieldLink RX8 15 "SoldHouse$Tape" "size" "I") (List.mem_of_getElem? (i := 1) rfl)) (fun _ h9 => h9) rfl dX8_put_32 ?_
  refine lv_iconst (v := 1) hx hb dX8_put_35 (by decide) ?_
  refine lv_iadd hx hb dX8_put_36 ?_
  refine lv_topi (fun y_12 ey_12 => ?_)
  obtain rfl : y_12 = 18 := ey_12.trans (by decide)
  refine va_put (D := D) (ci := 8) (v := .int 18) (ty := tyX8 1) (C := RX8) (T := TX8) (N := 2) hx hb hts iw_X8_put_X8 tyX8 tyX8_ok nmX8 hown hK hP hD hS 0 rfl rfl 1 (by decide) (hts (.fieldLink RX8 15 "SoldHouse$Tape" "size" "I") (List.mem_of_getElem? (i := 1) rfl)) (fun _ h9 => h9) rfl (by decide +kernel) rfl rfl (Nat.le_of_ble_eq_true rfl) dX8_put_37 (fun H locs hP hD hS => ?_)
  replace hP : va_P D classes [(a0, .inr (8, [.ref tb, .int 18])), (tb, .inl (cB, 1600, .inl g_11))] H := hP
  replace hD : va_D A [(a0, .inr (8, [.ref tb, .int 18])), (tb, .inl (cB, 1600, .inl g_11))] := hD
  refine lv_iinc (v := 8) (lv' := [(2, .int 8), (0, .ref a0), (1, .int x)]) hx hb dX8_put_40 hl (k := 0) rfl (by decide) (by decide) rfl (fun ls hl => ?_)
  refine lv_goto (tgt := 3) hx hb dX8_put_43 (by decide) ?_
  refine lv_iload_n hx hb dX8_put_3 rfl (lv_at hl 0 rfl) ?_
  refine lv_if_lt (tgt := 46) hx hb dX8_put_4 (by decide) (fun c_13 => absurd c_13 (by decide)) (fun _ => ?_)
  refine lv_aload_n hx hb dX8_put_7 rfl (lv_at hl 1 rfl) ?_
  refine va_get (D := D) (ci := 8) (v := .int 18) (C := RX8) (T := TX8) (N := 2) hx hb hts iw_X8_put_X8 hown hK hP 0 rfl rfl 1 (by decide) (hts (.fieldLink RX8 15 "SoldHouse$Tape" "size" "I") (List.mem_of_getElem? (i := 1) rfl)) (fun _ h9 => h9) rfl dX8_put_8 ?_
  refine lv_sipush (v := 1600) hx hb dX8_put_11 (by decide) ?_
  refine lv_icmp_ge (tgt := 40) hx hb dX8_put_14 (by decide) (fun c_14 => absurd c_14 (by decide)) (fun _ => ?_)
  refine lv_aload_n hx hb dX8_put_17 rfl (lv_at hl 1 rfl) ?_
  refine va_get (D := D) (ci := 8) (v := .ref tb) (C := RX8) (T := TX8) (N := 2) hx hb hts iw_X8_put_X8 hown hK hP 0 rfl rfl 0 (by decide) (hts (.fieldLink RX8 9 "SoldHouse$Tape" "bytes" "[B") (List.mem_of_getElem? (i := 2) rfl)) (fun _ h9 => h9) rfl dX8_put_18 ?_
  refine lv_aload_n hx hb dX8_put_21 rfl (lv_at hl 1 rfl) ?_
  refine va_get (D := D) (ci := 8) (v := .int 18) (C := RX8) (T := TX8) (N := 2) hx hb hts iw_X8_put_X8 hown hK hP 0 rfl rfl 1 (by decide) (hts (.fieldLink RX8 15 "SoldHouse$Tape" "size" "I") (List.mem_of_getElem? (i := 1) rfl)) (fun _ h9 => h9) rfl dX8_put_22 ?_
  refine lv_iload_n hx hb dX8_put_25 rfl (lv_at hl 2 rfl) ?_
  refine lv_iload_n hx hb dX8_put_26 rfl (lv_at hl 0 rfl) ?_
  refine lv_ishr hx hb dX8_put_27 ?_
  refine lv_topi (fun y_15 ey_15 => ?_)
  refine lv_i2b hx hb dX8_put_28 rfl ?_
  refine lv_topi (fun y_16 ey_16 => ?_)
  refine va_bast hx hb hK hP hD hS 1 1 rfl rfl (show vp_in 18 1600 from (by decide : ¬ ((18 : Int32) < 0 ∨ 1600 ≤ Int32.toNatClampNeg 18))) dX8_put_29 (fun H locs hP hD hS => ?_)
  replace hP : va_P D classes [(a0, .inr (8, [.ref tb, .int 18])), (tb, .inl (cB, 1600, .inl (upd g_11 (Int32.toNatClampNeg 18) (vp_nar .byte y_16))))] H := hP
  replace hD : va_D A [(a0, .inr (8, [.ref tb, .int 18])), (tb, .inl (cB, 1600, .inl (upd g_11 (Int32.toNatClampNeg 18) (vp_nar .byte y_16))))] := hD
  generalize eg_17 : upd g_11 (Int32.toNatClampNeg 18) (vp_nar .byte y_16) = g_17 at hP hD
  clear eg_17
  refine lv_aload_n hx hb dX8_put_30 rfl (lv_at hl 1 rfl) ?_
  refine lv_dup hx hb dX8_put_31 rfl ?_
  refine va_get (D := D) (ci := 8) (v := .int 18) (C := RX8) (T := TX8) (N := 2) hx hb hts iw_X8_put_X8 hown hK hP 0 rfl rfl 1 (by decide) (hts (.fieldLink RX8 15 "SoldHouse$Tape" "size" "I") (List.mem_of_getElem? (i := 1) rfl)) (fun _ h9 => h9) rfl dX8_put_32 ?_
  refine lv_iconst (v := 1) hx hb dX8_put_35 (by decide) ?_
  refine lv_iadd hx hb dX8_put_36 ?_
  refine lv_topi (fun y_18 ey_18 => ?_)
  obtain rfl : y_18 = 19 := ey_18.trans (by decide)
  refine va_put (D := D) (ci := 8) (v := .int 19) (ty := tyX8 1) (C := RX8) (T := TX8) (N := 2) hx hb hts iw_X8_put_X8 tyX8 tyX8_ok nmX8 hown hK hP hD hS 0 rfl rfl 1 (by decide) (hts (.fieldLink RX8 15 "SoldHouse$Tape" "size" "I") (List.mem_of_getElem? (i := 1) rfl)) (fun _ h9 => h9) rfl (by decide +kernel) rfl rfl (Nat.le_of_ble_eq_true rfl) dX8_put_37 (fun H locs hP hD hS => ?_)
  replace hP : va_P D classes [(a0, .inr (8, [.ref tb, .int 19])), (tb, .inl (cB, 1600, .inl g_17))] H := hP
  replace hD : va_D A [(a0, .inr (8, [.ref tb, .int 19])), (tb, .inl (cB, 1600, .inl g_17))] := hD
  refine lv_iinc (v := 0) (lv' := [(2, .int 0), (0, .ref a0), (1, .int x)]) hx hb dX8_put_40 hl (k := 0) rfl (by decide) (by decide) rfl (fun ls hl => ?_)
  refine lv_goto (tgt := 3) hx hb dX8_put_43 (by decide) ?_
  refine lv_iload_n hx hb dX8_put_3 rfl (lv_at hl 0 rfl) ?_
  refine lv_if_lt (tgt := 46) hx hb dX8_put_4 (by decide) (fun c_19 => absurd c_19 (by decide)) (fun _ => ?_)
  refine lv_aload_n hx hb dX8_put_7 rfl (lv_at hl 1 rfl) ?_
  refine va_get (D := D) (ci := 8) (v := .int 19) (C := RX8) (T := TX8) (N := 2) hx hb hts iw_X8_put_X8 hown hK hP 0 rfl rfl 1 (by decide) (hts (.fieldLink RX8 15 "SoldHouse$Tape" "size" "I") (List.mem_of_getElem? (i := 1) rfl)) (fun _ h9 => h9) rfl dX8_put_8 ?_
  refine lv_sipush (v := 1600) hx hb dX8_put_11 (by decide) ?_
  refine lv_icmp_ge (tgt := 40) hx hb dX8_put_14 (by decide) (fun c_20 => absurd c_20 (by decide)) (fun _ => ?_)
  refine lv_aload_n hx hb dX8_put_17 rfl (lv_at hl 1 rfl) ?_
  refine va_get (D := D) (ci := 8) (v := .ref tb) (C := RX8) (T := TX8) (N := 2) hx hb hts iw_X8_put_X8 hown hK hP 0 rfl rfl 0 (by decide) (hts (.fieldLink RX8 9 "SoldHouse$Tape" "bytes" "[B") (List.mem_of_getElem? (i := 2) rfl)) (fun _ h9 => h9) rfl dX8_put_18 ?_
  refine lv_aload_n hx hb dX8_put_21 rfl (lv_at hl 1 rfl) ?_
  refine va_get (D := D) (ci := 8) (v := .int 19) (C := RX8) (T := TX8) (N := 2) hx hb hts iw_X8_put_X8 hown hK hP 0 rfl rfl 1 (by decide) (hts (.fieldLink RX8 15 "SoldHouse$Tape" "size" "I") (List.mem_of_getElem? (i := 1) rfl)) (fun _ h9 => h9) rfl dX8_put_22 ?_
  refine lv_iload_n hx hb dX8_put_25 rfl (lv_at hl 2 rfl) ?_
  refine lv_iload_n hx hb dX8_put_26 rfl (lv_at hl 0 rfl) ?_
  refine lv_ishr hx hb dX8_put_27 ?_
  refine lv_topi (fun y_21 ey_21 => ?_)
  refine lv_i2b hx hb dX8_put_28 rfl ?_
  refine lv_topi (fun y_22 ey_22 => ?_)
  refine va_bast hx hb hK hP hD hS 1 1 rfl rfl (show vp_in 19 1600 from (by decide : ¬ ((19 : Int32) < 0 ∨ 1600 ≤ Int32.toNatClampNeg 19))) dX8_put_29 (fun H locs hP hD hS => ?_)
  replace hP : va_P D classes [(a0, .inr (8, [.ref tb, .int 19])), (tb, .inl (cB, 1600, .inl (upd g_17 (Int32.toNatClampNeg 19) (vp_nar .byte y_22))))] H := hP
  replace hD : va_D A [(a0, .inr (8, [.ref tb, .int 19])), (tb, .inl (cB, 1600, .inl (upd g_17 (Int32.toNatClampNeg 19) (vp_nar .byte y_22))))] := hD
  generalize eg_23 : upd g_17 (Int32.toNatClampNeg 19) (vp_nar .byte y_22) = g_23 at hP hD
  clear eg_23
  refine lv_aload_n hx hb dX8_put_30 rfl (lv_at hl 1 rfl) ?_
  refine lv_dup hx hb dX8_put_31 rfl ?_
  refine va_get (D := D) (ci := 8) (v := .int 19) (C := RX8) (T := TX8) (N := 2) hx hb hts iw_X8_put_X8 hown hK hP 0 rfl rfl 1 (by decide) (hts (.fieldLink RX8 15 "SoldHouse$Tape" "size" "I") (List.mem_of_getElem? (i := 1) rfl)) (fun _ h9 => h9) rfl dX8_put_32 ?_
  refine lv_iconst (v := 1) hx hb dX8_put_35 (by decide) ?_
  refine lv_iadd hx hb dX8_put_36 ?_
  refine lv_topi (fun y_24 ey_24 => ?_)
  obtain rfl : y_24 = 20 := ey_24.trans (by decide)
  refine va_put (D := D) (ci := 8) (v := .int 20) (ty := tyX8 1) (C := RX8) (T := TX8) (N := 2) hx hb hts iw_X8_put_X8 tyX8 tyX8_ok nmX8 hown hK hP hD hS 0 rfl rfl 1 (by decide) (hts (.fieldLink RX8 15 "SoldHouse$Tape" "size" "I") (List.mem_of_getElem? (i := 1) rfl)) (fun _ h9 => h9) rfl (by decide +kernel) rfl rfl (Nat.le_of_ble_eq_true rfl) dX8_put_37 (fun H locs hP hD hS => ?_)
  replace hP : va_P D classes [(a0, .inr (8, [.ref tb, .int 20])), (tb, .inl (cB, 1600, .inl g_23))] H := hP
  replace hD : va_D A [(a0, .inr (8, [.ref tb, .int 20])), (tb, .inl (cB, 1600, .inl g_23))] := hD
  refine lv_iinc (v := (-8)) (lv' := [(2, .int (-8)), (0, .ref a0), (1, .int x)]) hx hb dX8_put_40 hl (k := 0) rfl (by decide) (by decide) rfl (fun ls hl => ?_)
  refine lv_goto (tgt := 3) hx hb dX8_put_43 (by decide) ?_
  refine lv_iload_n hx hb dX8_put_3 rfl (lv_at hl 0 rfl) ?_
  refine lv_if_lt (tgt := 46) hx hb dX8_put_4 (by decide) (fun _ => ?_) (fun c_25 => absurd (by decide) c_25)
  have hP9 := hP.sub (ws' := [(a0, .inr (8, [.ref tb, .int 20])), (tb, .inl (cB, 1600, .inl g_23))]) [0, 1] rfl
  have hD9 := hD.sub (ws' := [(a0, .inr (8, [.ref tb, .int 20])), (tb, .inl (cB, 1600, .inl g_23))]) [0, 1] (by decide) rfl
  refine W.widen (k := 0) (n := 0) (Nat.le_of_ble_eq_true rfl) (Nat.le_of_ble_eq_true rfl) ?_
  exact W.vret hx hb hr (fun t ht hW => ⟨⟨(), rfl, trivial, ⟨g_23, by rw [ht]; exact hP9, hD9⟩⟩, hS.F ht⟩) hS.2.2 dX8_put_46
set_option maxHeartbeats 4000000 in
set_option maxRecDepth 100000 in
theorem c_feed (l : Launch) (D : va_G) (cI : ClassId) (cB : ClassId) (cL : ClassId) (cZ : ClassId) (a0 : Nat) (aP : Nat) (aD : Nat) (aT : Nat) (aR : Nat) (aF : Nat) (aU : Nat) (aH : Nat) (aM : Nat) (aW : Nat) (aN : Nat) (tb : Nat) (fb : Nat → Int32) (x1 : Int32) (x2 : Int32) (x3 : Int32) (x4 : Int32) (x5 : Int32) (sz : Nat) : Met l yX11_feed wsX11_feed ({ frames := 1, cells := 0, slots := 0, locals := 22 }) (xp D [(cI, .int), (cB, .byte), (cL, .long), (cZ, .boolean)] [(a0, .inr (11, [.ref aP, .ref aD, .ref aT, .ref aR, .ref aF, .ref aU, .ref aH, .ref aM, .ref aW, .ref aN])), (aT, .inr (8, [.ref tb, .int 0])), (tb, .inl (cB, 1600, .inl fb))] sz [] [.ref a0, .int x1, .int x2, .int x3, .int x4, .int x5]) (va_Qi (fun (r : Int32) (_ : Unit) => r = 20) (fun (_ : Unit) (_ : State) => True) (va_A [(a0, .inr (11, [.ref aP, .ref aD, .ref aT, .ref aR, .ref aF, .ref aU, .ref aH, .ref aM, .ref aW, .ref aN])), (aT, .inr (8, [.ref tb, .int 0])), (tb, .inl (cB, 1600, .inl fb))] sz)) 0 0 (va_A [(a0, .inr (11, [.ref aP, .ref aD, .ref aT, .ref aR, .ref aF, .ref aU, .ref aH, .ref aM, .ref aW, .ref aN])), (aT, .inr (8, [.ref tb, .int 0])), (tb, .inl (cB, 1600, .inl fb))] sz) := by
  refine Met.ofW (cc := cX11_feed) (maxL := 6) (ret := (some .int)) (by decide) rfl ?_
  intro p e s m args below meth c s₁ B hml hv
  obtain ⟨rfl, hsz, hP, hK, hD0, hNw⟩ := hv
  have hx := B.exec
  have hb := B.bytes
  have hr := B.returns
  have hts := atoms_spec (ws := wsX11_feed) B.pre
  have hown : s.vm.findClass RX11 = some m.cls := findClass_of_methodNamed B.named
  have hlocks := B.notSynchronized
  subst hsz
  have hD := hD0.self (sz := s.heap.size)
  clear hD0
  generalize hAe : va_A [(a0, .inr (11, [.ref aP, .ref aD, .ref aT, .ref aR, .ref aF, .ref aU, .ref aH, .ref aM, .ref aW, .ref aN])), (aT, .inr (8, [.ref tb, .int 0])), (tb, .inl (cB, 1600, .inl fb))] s.heap.size = A at hD ⊢
  have hA : ∀ q : Nat, s.heap.size ≤ q → A q := fun q h => by rw [← hAe]; exact Or.inr h
  have hS : va_S A s.heap s.heap [] := va_S.rf
  clear hAe
  obtain ⟨H, hH⟩ : ∃ H : Heap, H = s.heap := ⟨_, rfl⟩
  obtain ⟨locs, hlocs⟩ : ∃ L : List Loc, L = [] := ⟨_, rfl⟩
  replace hP : va_P D classes [(a0, .inr (11, [.ref aP, .ref aD, .ref aT, .ref aR, .ref aF, .ref aU, .ref aH, .ref aM, .ref aW, .ref aN])), (aT, .inr (8, [.ref tb, .int 0])), (tb, .inl (cB, 1600, .inl fb))] H := by rw [hH]; exact hP
  replace hS : va_S A s.heap H locs := by rw [hH, hlocs]; exact hS
  rw [← hH, ← hlocs]
  clear hlocs hH
  have hl := lv_entry ([.ref a0, .int x1, .int x2, .int x3, .int x4, .int x5]) (n := 6) (Nat.le_of_ble_eq_true rfl)
  rw [lg_entry_eq]
  generalize (lg_sl ([.ref a0, .int x1, .int x2, .int x3, .int x4, .int x5]) ++ List.replicate (6 - (lg_sl ([.ref a0, .int x1, .int x2, .int x3, .int x4, .int x5])).length) Slot.unset).toArray = ls at hl ⊢
  replace hl : lv_has ls 6 [(0, .ref a0), (1, .int x1), (2, .int x2), (3, .int x3), (4, .int x4), (5, .int x5)] := hl
  refine lv_aload_n hx hb dX11_feed_0 rfl (lv_at hl 0 rfl) ?_
  refine va_get (D := D) (ci := 11) (v := .ref aT) (C := RX11) (T := TX11) (N := 10) hx hb hts iw_X11_feed_X11 hown hK hP 0 rfl rfl 2 (by decide) (hts (.fieldLink RX11 22 "SoldHouse" "tape" "LSoldHouse$Tape;") (List.mem_of_getElem? (i := 1) rfl)) (fun _ h9 => h9) rfl dX11_feed_1 ?_
  refine va_get (D := D) (ci := 8) (v := .int 0) (C := RX8) (T := TX8) (N := 2) hx hb hts iw_X11_feed_X8 hown hK hP 1 rfl rfl 1 (by decide) (hts (.fieldLink RX11 86 "SoldHouse$Tape" "size" "I") (List.mem_of_getElem? (i := 2) rfl)) (fun _ h9 => h9) rfl dX11_feed_4 ?_
  refine lv_sipush (v := 1580) hx hb dX11_feed_7 (by decide) ?_
  refine lv_icmp_le (tgt := 15) hx hb dX11_feed_10 (by decide) (fun _ => ?_) (fun c_1 => absurd (by decide) c_1)
  refine lv_aload_n hx hb dX11_feed_15 rfl (lv_at hl 0 rfl) ?_
  refine va_get (D := D) (ci := 11) (v := .ref aT) (C := RX11) (T := TX11) (N := 10) hx hb hts iw_X11_feed_X11 hown hK hP 0 rfl rfl 2 (by decide) (hts (.fieldLink RX11 22 "SoldHouse" "tape" "LSoldHouse$Tape;") (List.mem_of_getElem? (i := 1) rfl)) (fun _ h9 => h9) rfl dX11_feed_16 ?_
  refine lv_iload_n hx hb dX11_feed_19 rfl (lv_at hl 1 rfl) ?_
  have hPc := hP.sub (ws' := [(aT, .inr (8, [.ref tb, .int 0])), (tb, .inl (cB, 1600, .inl fb))]) [1, 2] rfl
  have hDc := hD.sub (ws' := [(aT, .inr (8, [.ref tb, .int 0])), (tb, .inl (cB, 1600, .inl fb))]) [1, 2] (by decide) rfl
  have hFc := va_free (wc := [(aT, .inr (8, [.ref tb, .int 0])), (tb, .inl (cB, 1600, .inl fb))]) hD hS hA [1, 2] rfl
  refine va_callv (va_runV (As := [.int x1]) (rest := []) ⟨hx, hb, hml, hown, hts⟩ (c_put0 l D cI cB cL cZ aT tb fb x1 H.size) (cwV 1 hts gX11_feed_X8_put rfl rfl rfl (by decide +kernel) ⟨Nat.le_of_ble_eq_true rfl, Nat.le_of_ble_eq_true rfl⟩) ⟨xp_blind, va_recv hK hPc (ci := 8) (q0 := 0) rfl rfl, fun U hU hW => xp_mk hU hW hPc hK hDc xNw_nil⟩ rfl rfl hl.1 rfl (lv_room (Nat.le_of_ble_eq_true rfl)) dX11_feed_20 ⟨Nat.le_of_ble_eq_true rfl, Nat.le_of_ble_eq_true rfl⟩) hS (fun q _ h => hFc q h) hFc (fun u9 t9 H1 locs ht9 hvm9 hr_2 hB9 hz9 hk9 hS => ?_)
  obtain ⟨g__3, hP1, hD1⟩ := hB9
  rw [ht9] at hP1
  obtain ⟨hP, hD⟩ := va_join (wr := [(a0, .inr (11, [.ref aP, .ref aD, .ref aT, .ref aR, .ref aF, .ref aU, .ref aH, .ref aM, .ref aW, .ref aN]))]) (w1 := [(aT, .inr (8, [.ref tb, .int 4])), (tb, .inl (cB, 1600, .inl g__3))]) hP hD [1, 2] [0] rfl rfl (by decide) (by decide) hk9 hFc hP1 hD1
  clear hz9 hPc hDc hP1 hD1
  clear hk9 hFc ht9 hvm9
  generalize H1 = H at hP hS ⊢
  replace hP : va_P D classes [(a0, .inr (11, [.ref aP, .ref aD, .ref aT, .ref aR, .ref aF, .ref aU, .ref aH, .ref aM, .ref aW, .ref aN])), (aT, .inr (8, [.ref tb, .int 4])), (tb, .inl (cB, 1600, .inl g__3))] H := hP
  replace hD : va_D A [(a0, .inr (11, [.ref aP, .ref aD, .ref aT, .ref aR, .ref aF, .ref aU, .ref aH, .ref aM, .ref aW, .ref aN])), (aT, .inr (8, [.ref tb, .int 4])), (tb, .inl (cB, 1600, .inl g__3))] := hD
  refine lv_aload_n hx hb dX11_feed_23 rfl (lv_at hl 0 rfl) ?_
  refine va_get (D := D) (ci := 11) (v := .ref aT) (C := RX11) (T := TX11) (N := 10) hx hb hts iw_X11_feed_X11 hown hK hP 0 rfl rfl 2 (by decide) (hts (.fieldLink RX11 22 "SoldHouse" "tape" "LSoldHouse$Tape;") (List.mem_of_getElem? (i := 1) rfl)) (fun _ h9 => h9) rfl dX11_feed_24 ?_
  refine lv_iload_n hx hb dX11_feed_27 rfl (lv_at hl 2 rfl) ?_
  have hPc := hP.sub (ws' := [(aT, .inr (8, [.ref tb, .int 4])), (tb, .inl (cB, 1600, .inl g__3))]) [1, 2] rfl
  have hDc := hD.sub (ws' := [(aT, .inr (8, [.ref tb, .int 4])), (tb, .inl (cB, 1600, .inl g__3))]) [1, 2] (by decide) rfl
  have hFc := va_free (wc := [(aT, .inr (8, [.ref tb, .int 4])), (tb, .inl (cB, 1600, .inl g__3))]) hD hS hA [1, 2] rfl
  refine va_callv (va_runV (As := [.int x2]) (rest := []) ⟨hx, hb, hml, hown, hts⟩ (c_put4 l D cI cB cL cZ aT tb g__3 x2 H.size) (cwV 1 hts gX11_feed_X8_put rfl rfl rfl (by decide +kernel) ⟨Nat.le_of_ble_eq_true rfl, Nat.le_of_ble_eq_true rfl⟩) ⟨xp_blind, va_recv hK hPc (ci := 8) (q0 := 0) rfl rfl, fun U hU hW => xp_mk hU hW hPc hK hDc xNw_nil⟩ rfl rfl hl.1 rfl (lv_room (Nat.le_of_ble_eq_true rfl)) dX11_feed_28 ⟨Nat.le_of_ble_eq_true rfl, Nat.le_of_ble_eq_true rfl⟩) hS (fun q _ h => hFc q h) hFc (fun u9 t9 H1 locs ht9 hvm9 hr_4 hB9 hz9 hk9 hS => ?_)
  obtain ⟨g__5, hP1, hD1⟩ := hB9
  rw [ht9] at hP1
  obtain ⟨hP, hD⟩ := va_join (wr := [(a0, .inr (11, [.ref aP, .ref aD, .ref aT, .ref aR, .ref aF, .ref aU, .ref aH, .ref aM, .ref aW, .ref aN]))]) (w1 := [(aT, .inr (8, [.ref tb, .int 8])), (tb, .inl (cB, 1600, .inl g__5))]) hP hD [1, 2] [0] rfl rfl (by decide) (by decide) hk9 hFc hP1 hD1
  clear hz9 hPc hDc hP1 hD1
  clear hk9 hFc ht9 hvm9
  generalize H1 = H at hP hS ⊢
  replace hP : va_P D classes [(a0, .inr (11, [.ref aP, .ref aD, .ref aT, .ref aR, .ref aF, .ref aU, .ref aH, .ref aM, .ref aW, .ref aN])), (aT, .inr (8, [.ref tb, .int 8])), (tb, .inl (cB, 1600, .inl g__5))] H := hP
  replace hD : va_D A [(a0, .inr (11, [.ref aP, .ref aD, .ref aT, .ref aR, .ref aF, .ref aU, .ref aH, .ref aM, .ref aW, .ref aN])), (aT, .inr (8, [.ref tb, .int 8])), (tb, .inl (cB, 1600, .inl g__5))] := hD
  refine lv_aload_n hx hb dX11_feed_31 rfl (lv_at hl 0 rfl) ?_
  refine va_get (D := D) (ci := 11) (v := .ref aT) (C := RX11) (T := TX11) (N := 10) hx hb hts iw_X11_feed_X11 hown hK hP 0 rfl rfl 2 (by decide) (hts (.fieldLink RX11 22 "SoldHouse" "tape" "LSoldHouse$Tape;") (List.mem_of_getElem? (i := 1) rfl)) (fun _ h9 => h9) rfl dX11_feed_32 ?_
  refine lv_iload_n hx hb dX11_feed_35 rfl (lv_at hl 3 rfl) ?_
  have hPc := hP.sub (ws' := [(aT, .inr (8, [.ref tb, .int 8])), (tb, .inl (cB, 1600, .inl g__5))]) [1, 2] rfl
  have hDc := hD.sub (ws' := [(aT, .inr (8, [.ref tb, .int 8])), (tb, .inl (cB, 1600, .inl g__5))]) [1, 2] (by decide) rfl
  have hFc := va_free (wc := [(aT, .inr (8, [.ref tb, .int 8])), (tb, .inl (cB, 1600, .inl g__5))]) hD hS hA [1, 2] rfl
  refine va_callv (va_runV (As := [.int x3]) (rest := []) ⟨hx, hb, hml, hown, hts⟩ (c_put8 l D cI cB cL cZ aT tb g__5 x3 H.size) (cwV 1 hts gX11_feed_X8_put rfl rfl rfl (by decide +kernel) ⟨Nat.le_of_ble_eq_true rfl, Nat.le_of_ble_eq_true rfl⟩) ⟨xp_blind, va_recv hK hPc (ci := 8) (q0 := 0) rfl rfl, fun U hU hW => xp_mk hU hW hPc hK hDc xNw_nil⟩ rfl rfl hl.1 rfl (lv_room (Nat.le_of_ble_eq_true rfl)) dX11_feed_36 ⟨Nat.le_of_ble_eq_true rfl, Nat.le_of_ble_eq_true rfl⟩) hS (fun q _ h => hFc q h) hFc (fun u9 t9 H1 locs ht9 hvm9 hr_6 hB9 hz9 hk9 hS => ?_)
  obtain ⟨g__7, hP1, hD1⟩ := hB9
  rw [ht9] at hP1
  obtain ⟨hP, hD⟩ := va_join (wr := [(a0, .inr (11, [.ref aP, .ref aD, .ref aT, .ref aR, .ref aF, .ref aU, .ref aH, .ref aM, .ref aW, .ref aN]))]) (w1 := [(aT, .inr (8, [.ref tb, .int 12])), (tb, .inl (cB, 1600, .inl g__7))]) hP hD [1, 2] [0] rfl rfl (by decide) (by decide) hk9 hFc hP1 hD1
  clear hz9 hPc hDc hP1 hD1
  clear hk9 hFc ht9 hvm9
  generalize H1 = H at hP hS ⊢
  replace hP : va_P D classes [(a0, .inr (11, [.ref aP, .ref aD, .ref aT, .ref aR, .ref aF, .ref aU, .ref aH, .ref aM, .ref aW, .ref aN])), (aT, .inr (8, [.ref tb, .int 12])), (tb, .inl (cB, 1600, .inl g__7))] H := hP
  replace hD : va_D A [(a0, .inr (11, [.ref aP, .ref aD, .ref aT, .ref aR, .ref aF, .ref aU, .ref aH, .ref aM, .ref aW, .ref aN])), (aT, .inr (8, [.ref tb, .int 12])), (tb, .inl (cB, 1600, .inl g__7))] := hD
  refine lv_aload_n hx hb dX11_feed_39 rfl (lv_at hl 0 rfl) ?_
  refine va_get (D := D) (ci := 11) (v := .ref aT) (C := RX11) (T := TX11) (N := 10) hx hb hts iw_X11_feed_X11 hown hK hP 0 rfl rfl 2 (by decide) (hts (.fieldLink RX11 22 "SoldHouse" "tape" "LSoldHouse$Tape;") (List.mem_of_getElem? (i := 1) rfl)) (fun _ h9 => h9) rfl dX11_feed_40 ?_
  refine lv_iload hx hb dX11_feed_43 (lv_at hl 4 rfl) ?_
  have hPc := hP.sub (ws' := [(aT, .inr (8, [.ref tb, .int 12])), (tb, .inl (cB, 1600, .inl g__7))]) [1, 2] rfl
  have hDc := hD.sub (ws' := [(aT, .inr (8, [.ref tb, .int 12])), (tb, .inl (cB, 1600, .inl g__7))]) [1, 2] (by decide) rfl
  have hFc := va_free (wc := [(aT, .inr (8, [.ref tb, .int 12])), (tb, .inl (cB, 1600, .inl g__7))]) hD hS hA [1, 2] rfl
  refine va_callv (va_runV (As := [.int x4]) (rest := []) ⟨hx, hb, hml, hown, hts⟩ (c_put12 l D cI cB cL cZ aT tb g__7 x4 H.size) (cwV 1 hts gX11_feed_X8_put rfl rfl rfl (by decide +kernel) ⟨Nat.le_of_ble_eq_true rfl, Nat.le_of_ble_eq_true rfl⟩) ⟨xp_blind, va_recv hK hPc (ci := 8) (q0 := 0) rfl rfl, fun U hU hW => xp_mk hU hW hPc hK hDc xNw_nil⟩ rfl rfl hl.1 rfl (lv_room (Nat.le_of_ble_eq_true rfl)) dX11_feed_45 ⟨Nat.le_of_ble_eq_true rfl, Nat.le_of_ble_eq_true rfl⟩) hS (fun q _ h => hFc q h) hFc (fun u9 t9 H1 locs ht9 hvm9 hr_8 hB9 hz9 hk9 hS => ?_)
  obtain ⟨g__9, hP1, hD1⟩ := hB9
  rw [ht9] at hP1
  obtain ⟨hP, hD⟩ := va_join (wr := [(a0, .inr (11, [.ref aP, .ref aD, .ref aT, .ref aR, .ref aF, .ref aU, .ref aH, .ref aM, .ref aW, .ref aN]))]) (w1 := [(aT, .inr (8, [.ref tb, .int 16])), (tb, .inl (cB, 1600, .inl g__9))]) hP hD [1, 2] [0] rfl rfl (by decide) (by decide) hk9 hFc hP1 hD1
  clear hz9 hPc hDc hP1 hD1
  clear hk9 hFc ht9 hvm9
  generalize H1 = H at hP hS ⊢
  replace hP : va_P D classes [(a0, .inr (11, [.ref aP, .ref aD, .ref aT, .ref aR, .ref aF, .ref aU, .ref aH, .ref aM, .ref aW, .ref aN])), (aT, .inr (8, [.ref tb, .int 16])), (tb, .inl (cB, 1600, .inl g__9))] H := hP
  replace hD : va_D A [(a0, .inr (11, [.ref aP, .ref aD, .ref aT, .ref aR, .ref aF, .ref aU, .ref aH, .ref aM, .ref aW, .ref aN])), (aT, .inr (8, [.ref tb, .int 16])), (tb, .inl (cB, 1600, .inl g__9))] := hD
  refine lv_aload_n hx hb dX11_feed_48 rfl (lv_at hl 0 rfl) ?_
  refine va_get (D := D) (ci := 11) (v := .ref aT) (C := RX11) (T := TX11) (N := 10) hx hb hts iw_X11_feed_X11 hown hK hP 0 rfl rfl 2 (by decide) (hts (.fieldLink RX11 22 "SoldHouse" "tape" "LSoldHouse$Tape;") (List.mem_of_getElem? (i := 1) rfl)) (fun _ h9 => h9) rfl dX11_feed_49 ?_
  refine lv_iload hx hb dX11_feed_52 (lv_at hl 5 rfl) ?_
  have hPc := hP.sub (ws' := [(aT, .inr (8, [.ref tb, .int 16])), (tb, .inl (cB, 1600, .inl g__9))]) [1, 2] rfl
  have hDc := hD.sub (ws' := [(aT, .inr (8, [.ref tb, .int 16])), (tb, .inl (cB, 1600, .inl g__9))]) [1, 2] (by decide) rfl
  have hFc := va_free (wc := [(aT, .inr (8, [.ref tb, .int 16])), (tb, .inl (cB, 1600, .inl g__9))]) hD hS hA [1, 2] rfl
  refine va_callv (va_runV (As := [.int x5]) (rest := []) ⟨hx, hb, hml, hown, hts⟩ (c_put16 l D cI cB cL cZ aT tb g__9 x5 H.size) (cwV 1 hts gX11_feed_X8_put rfl rfl rfl (by decide +kernel) ⟨Nat.le_of_ble_eq_true rfl, Nat.le_of_ble_eq_true rfl⟩) ⟨xp_blind, va_recv hK hPc (ci := 8) (q0 := 0) rfl rfl, fun U hU hW => xp_mk hU hW hPc hK hDc xNw_nil⟩ rfl rfl hl.1 rfl (lv_room (Nat.le_of_ble_eq_true rfl)) dX11_feed_54 ⟨Nat.le_of_ble_eq_true rfl, Nat.le_of_ble_eq_true rfl⟩) hS (fun q _ h => hFc q h) hFc (fun u9 t9 H1 locs ht9 hvm9 hr_10 hB9 hz9 hk9 hS => ?_)
  obtain ⟨g__11, hP1, hD1⟩ := hB9
  rw [ht9] at hP1
  obtain ⟨hP, hD⟩ := va_join (wr := [(a0, .inr (11, [.ref aP, .ref aD, .ref aT, .ref aR, .ref aF, .ref aU, .ref aH, .ref aM, .ref aW, .ref aN]))]) (w1 := [(aT, .inr (8, [.ref tb, .int 20])), (tb, .inl (cB, 1600, .inl g__11))]) hP hD [1, 2] [0] rfl rfl (by decide) (by decide) hk9 hFc hP1 hD1
  clear hz9 hPc hDc hP1 hD1
  clear hk9 hFc ht9 hvm9
  generalize H1 = H at hP hS ⊢
  replace hP : va_P D classes [(a0, .inr (11, [.ref aP, .ref aD, .ref aT, .ref aR, .ref aF, .ref aU, .ref aH, .ref aM, .ref aW, .ref aN])), (aT, .inr (8, [.ref tb, .int 20])), (tb, .inl (cB, 1600, .inl g__11))] H := hP
  replace hD : va_D A [(a0, .inr (11, [.ref aP, .ref aD, .ref aT, .ref aR, .ref aF, .ref aU, .ref aH, .ref aM, .ref aW, .ref aN])), (aT, .inr (8, [.ref tb, .int 20])), (tb, .inl (cB, 1600, .inl g__11))] := hD
  refine lv_aload_n hx hb dX11_feed_57 rfl (lv_at hl 0 rfl) ?_
  refine va_get (D := D) (ci := 11) (v := .ref aT) (C := RX11) (T := TX11) (N := 10) hx hb hts iw_X11_feed_X11 hown hK hP 0 rfl rfl 2 (by decide) (hts (.fieldLink RX11 22 "SoldHouse" "tape" "LSoldHouse$Tape;") (List.mem_of_getElem? (i := 1) rfl)) (fun _ h9 => h9) rfl dX11_feed_58 ?_
  refine va_get (D := D) (ci := 8) (v := .int 20) (C := RX8) (T := TX8) (N := 2) hx hb hts iw_X11_feed_X8 hown hK hP 1 rfl rfl 1 (by decide) (hts (.fieldLink RX11 86 "SoldHouse$Tape" "size" "I") (List.mem_of_getElem? (i := 2) rfl)) (fun _ h9 => h9) rfl dX11_feed_61 ?_
  refine W.widen (k := 0) (n := 0) (Nat.le_of_ble_eq_true rfl) (Nat.le_of_ble_eq_true rfl) ?_
  exact W.iret (v := 20) hx hb hr (fun t ht hW => ⟨⟨20, (), rfl, rfl, trivial⟩, hS.F ht⟩) hS.2.2 dX11_feed_64
set_option maxHeartbeats 4000000 in
set_option maxRecDepth 100000 in
theorem c_end (l : Launch) (D : va_G) (cI : ClassId) (cB : ClassId) (cL : ClassId) (cZ : ClassId) (a0 : Nat) (aP : Nat) (aD : Nat) (aT : Nat) (aR : Nat) (aF : Nat) (aU : Nat) (aH : Nat) (aM : Nat) (aW : Nat) (aN : Nat) (tb : Nat) (x : Int32) (sz : Nat) : Met l yX11_end wsX11_end ({ frames := 0, cells := 0, slots := 0, locals := 0 }) (xp D [(cI, .int), (cB, .byte), (cL, .long), (cZ, .boolean)] [(a0, .inr (11, [.ref aP, .ref aD, .ref aT, .ref aR, .ref aF, .ref aU, .ref aH, .ref aM, .ref aW, .ref aN])), (aT, .inr (8, [.ref tb, .int 0]))] sz [] [.ref a0, .int x]) (va_Qi (fun (r : Int32) (_ : Unit) => r = sp_nul x) (fun (_ : Unit) (_ : State) => True) (va_A [(a0, .inr (11, [.ref aP, .ref aD, .ref aT, .ref aR, .ref aF, .ref aU, .ref aH, .ref aM, .ref aW, .ref aN])), (aT, .inr (8, [.ref tb, .int 0]))] sz)) 0 0 (va_A [(a0, .inr (11, [.ref aP, .ref aD, .ref aT, .ref aR, .ref aF, .ref aU, .ref aH, .ref aM, .ref aW, .ref aN])), (aT, .inr (8, [.ref tb, .int 0]))] sz) := by
  refine Met.ofW (cc := cX11_end) (maxL := 2) (ret := (some .int)) (by decide) rfl ?_
  intro p e s m args below meth c s₁ B hml hv
  obtain ⟨rfl, hsz, hP, hK, hD0, hNw⟩ := hv
  have hx := B.exec
  have hb := B.bytes
  have hr := B.returns
  have hts := atoms_spec (ws := wsX11_end) B.pre
  have hown : s.vm.findClass RX11 = some m.cls := findClass_of_methodNamed B.named
  have hlocks := B.notSynchronized
  subst hsz
  have hD := hD0.self (sz := s.heap.size)
  clear hD0
  generalize hAe : va_A [(a0, .inr (11, [.ref aP, .ref aD, .ref aT, .ref aR, .ref aF, .ref aU, .ref aH, .ref aM, .ref aW, .ref aN])), (aT, .inr (8, [.ref tb, .int 0]))] s.heap.size = A at hD ⊢
  have hA : ∀ q : Nat, s.heap.size ≤ q → A q := fun q h => by rw [← hAe]; exact Or.inr h
  have hS : va_S A s.heap s.heap [] := va_S.rf
  clear hAe
  obtain ⟨H, hH⟩ : ∃ H : Heap, H = s.heap := ⟨_, rfl⟩
  obtain ⟨locs, hlocs⟩ : ∃ L : List Loc, L = [] := ⟨_, rfl⟩
  replace hP : va_P D classes [(a0, .inr (11, [.ref aP, .ref aD, .ref aT, .ref aR, .ref aF, .ref aU, .ref aH, .ref aM, .ref aW, .ref aN])), (aT, .inr (8, [.ref tb, .int 0]))] H := by rw [hH]; exact hP
  replace hS : va_S A s.heap H locs := by rw [hH, hlocs]; exact hS
  rw [← hH, ← hlocs]
  clear hlocs hH
  have hl := lv_entry ([.ref a0, .int x]) (n := 2) (Nat.le_of_ble_eq_true rfl)
  rw [lg_entry_eq]
  generalize (lg_sl ([.ref a0, .int x]) ++ List.replicate (2 - (lg_sl ([.ref a0, .int x])).length) Slot.unset).toArray = ls at hl ⊢
  replace hl : lv_has ls 2 [(0, .ref a0), (1, .int x)] := hl
  refine lv_iload_n hx hb dX11_end_0 rfl (lv_at hl 1 rfl) ?_
  refine lv_if_lt (tgt := 15) hx hb dX11_end_1 (by decide) (fun c_1 => ?_) (fun c_1 => ?_)
  · refine lv_iconst (v := (-1)) hx hb dX11_end_15 (by decide) ?_
    refine W.widen (k := 0) (n := 0) (Nat.le_of_ble_eq_true rfl) (Nat.le_of_ble_eq_true rfl) ?_
    exact W.iret (v := (-1)) hx hb hr (fun t ht hW => ⟨⟨(-1), (), rfl, (sp_nul_lt c_1).symm, trivial⟩, hS.F ht⟩) hS.2.2 dX11_end_16
  · refine lv_iload_n hx hb dX11_end_4 rfl (lv_at hl 1 rfl) ?_
    refine lv_aload_n hx hb dX11_end_5 rfl (lv_at hl 0 rfl) ?_
    refine va_get (D := D) (ci := 11) (v := .ref aT) (C := RX11) (T := TX11) (N := 10) hx hb hts iw_X11_end_X11 hown hK hP 0 rfl rfl 2 (by decide) (hts (.fieldLink RX11 22 "SoldHouse" "tape" "LSoldHouse$Tape;") (List.mem_of_getElem? (i := 1) rfl)) (fun _ h9 => h9) rfl dX11_end_6 ?_
    refine va_get (D := D) (ci := 8) (v := .int 0) (C := RX8) (T := TX8) (N := 2) hx hb hts iw_X11_end_X8 hown hK hP 1 rfl rfl 1 (by decide) (hts (.fieldLink RX11 86 "SoldHouse$Tape" "size" "I") (List.mem_of_getElem? (i := 2) rfl)) (fun _ h9 => h9) rfl dX11_end_9 ?_
    refine lv_icmp_le (tgt := 17) hx hb dX11_end_12 (by decide) (fun c_2 => ?_) (fun c_2 => ?_)
    · refine lv_aload_n hx hb dX11_end_17 rfl (lv_at hl 0 rfl) ?_
      refine va_get (D := D) (ci := 11) (v := .ref aT) (C := RX11) (T := TX11) (N := 10) hx hb hts iw_X11_end_X11 hown hK hP 0 rfl rfl 2 (by decide) (hts (.fieldLink RX11 22 "SoldHouse" "tape" "LSoldHouse$Tape;") (List.mem_of_getElem? (i := 1) rfl)) (fun _ h9 => h9) rfl dX11_end_18 ?_
      refine lv_iload_n hx hb dX11_end_21 rfl (lv_at hl 1 rfl) ?_
      refine va_put (D := D) (ci := 8) (v := .int x) (ty := tyX8 1) (C := RX8) (T := TX8) (N := 2) hx hb hts iw_X11_end_X8 tyX8 tyX8_ok nmX8 hown hK hP hD hS 1 rfl rfl 1 (by decide) (hts (.fieldLink RX11 86 "SoldHouse$Tape" "size" "I") (List.mem_of_getElem? (i := 2) rfl)) (fun _ h9 => h9) rfl (by decide +kernel) rfl rfl (Nat.le_of_ble_eq_true rfl) dX11_end_22 (fun H locs hP hD hS => ?_)
      replace hP : va_P D classes [(a0, .inr (11, [.ref aP, .ref aD, .ref aT, .ref aR, .ref aF, .ref aU, .ref aH, .ref aM, .ref aW, .ref aN])), (aT, .inr (8, [.ref tb, .int x]))] H := hP
      replace hD : va_D A [(a0, .inr (11, [.ref aP, .ref aD, .ref aT, .ref aR, .ref aF, .ref aU, .ref aH, .ref aM, .ref aW, .ref aN])), (aT, .inr (8, [.ref tb, .int x]))] := hD
      refine lv_iload_n hx hb dX11_end_25 rfl (lv_at hl 1 rfl) ?_
      refine W.widen (k := 0) (n := 0) (Nat.le_of_ble_eq_true rfl) (Nat.le_of_ble_eq_true rfl) ?_
      exact W.iret (v := x) hx hb hr (fun t ht hW => ⟨⟨x, (), rfl, (by rw [zz_pin c_1 (Int32.not_lt.mpr c_2)]; decide), trivial⟩, hS.F ht⟩) hS.2.2 dX11_end_26
    · refine lv_iconst (v := (-1)) hx hb dX11_end_15 (by decide) ?_
      refine W.widen (k := 0) (n := 0) (Nat.le_of_ble_eq_true rfl) (Nat.le_of_ble_eq_true rfl) ?_
      exact W.iret (v := (-1)) hx hb hr (fun t ht hW => ⟨⟨(-1), (), rfl, (sp_nul_gt (Int32.not_le.mp c_2)).symm, trivial⟩, hS.F ht⟩) hS.2.2 dX11_end_16
set_option maxHeartbeats 4000000 in
set_option maxRecDepth 100000 in
theorem c_way (l : Launch) (D : va_G) (cI : ClassId) (cB : ClassId) (cL : ClassId) (cZ : ClassId) (a0 : Nat) (aP : Nat) (aD : Nat) (aT : Nat) (aR : Nat) (aF : Nat) (aU : Nat) (aH : Nat) (aM : Nat) (aW : Nat) (aN : Nat) (aF1 : Nat) (pz : Nat → Nat) (su : Nat) (ul : Nat) (uc : Nat) (ue : Nat) (x : Int32) (y : Int32) (sz : Nat) : Met l yX11_way wsX11_way ({ frames := 1, cells := 0, slots := 0, locals := 21 }) (xp D [(cI, .int), (cB, .byte), (cL, .long), (cZ, .boolean)] [(a0, .inr (11, [.ref aP, .ref aD, .ref aT, .ref aR, .ref aF, .ref aU, .ref aH, .ref aM, .ref aW, .ref aN])), (aP, .inr (5, PF pz su)), (aU, .inr (7, [.ref aF1, .ref ul, .int 0, .ref uc, .ref ue]))] sz [] [.ref a0, .int x, .int y]) (va_Qi (fun (r : Int32) (_ : Unit) => r = (-1)) (fun (_ : Unit) (_ : State) => True) (va_A [(a0, .inr (11, [.ref aP, .ref aD, .ref aT, .ref aR, .ref aF, .ref aU, .ref aH, .ref aM, .ref aW, .ref aN])), (aP, .inr (5, PF pz su)), (aU, .inr (7, [.ref aF1, .ref ul, .int 0, .ref uc, .ref ue]))] sz)) 0 0 (va_A [(a0, .inr (11, [.ref aP, .ref aD, .ref aT, .ref aR, .ref aF, .ref aU, .ref aH, .ref aM, .ref aW, .ref aN])), (aP, .inr (5, PF pz su)), (aU, .inr (7, [.ref aF1, .ref ul, .int 0, .ref uc, .ref ue]))] sz) := by
  refine Met.ofW (cc := cX11_way) (maxL := 3) (ret := (some .int)) (by decide) rfl ?_
  intro p e s m args below meth c s₁ B hml hv
  obtain ⟨rfl, hsz, hP, hK, hD0, hNw⟩ := hv
  have hx := B.exec
  have hb := B.bytes
  have hr := B.returns
  have hts := atoms_spec (ws := wsX11_way) B.pre
  have hown : s.vm.findClass RX11 = some m.cls := findClass_of_methodNamed B.named
  have hlocks := B.notSynchronized
  subst hsz
  have hD := hD0.self (sz := s.heap.size)
  clear hD0
  generalize hAe : va_A [(a0, .inr (11, [.ref aP, .ref aD, .ref aT, .ref aR, .ref aF, .ref aU, .ref aH, .ref aM, .ref aW, .ref aN])), (aP, .inr (5, PF pz su)), (aU, .inr (7, [.ref aF1, .ref ul, .int 0, .ref uc, .ref ue]))] s.heap.size = A at hD ⊢
  have hA : ∀ q : Nat, s.heap.size ≤ q → A q := fun q h => by rw [← hAe]; exact Or.inr h
  have hS : va_S A s.heap s.heap [] := va_S.rf
  clear hAe
  obtain ⟨H, hH⟩ : ∃ H : Heap, H = s.heap := ⟨_, rfl⟩
  obtain ⟨locs, hlocs⟩ : ∃ L : List Loc, L = [] := ⟨_, rfl⟩
  replace hP : va_P D classes [(a0, .inr (11, [.ref aP, .ref aD, .ref aT, .ref aR, .ref aF, .ref aU, .ref aH, .ref aM, .ref aW, .ref aN])), (aP, .inr (5, PF pz su)), (aU, .inr (7, [.ref aF1, .ref ul, .int 0, .ref uc, .ref ue]))] H := by rw [hH]; exact hP
  replace hS : va_S A s.heap H locs := by rw [hH, hlocs]; exact hS
  rw [← hH, ← hlocs]
  clear hlocs hH
  have hl := lv_entry ([.ref a0, .int x, .int y]) (n := 3) (Nat.le_of_ble_eq_true rfl)
  rw [lg_entry_eq]
  generalize (lg_sl ([.ref a0, .int x, .int y]) ++ List.replicate (3 - (lg_sl ([.ref a0, .int x, .int y])).length) Slot.unset).toArray = ls at hl ⊢
  replace hl : lv_has ls 3 [(0, .ref a0), (1, .int x), (2, .int y)] := hl
  refine lv_aload_n hx hb dX11_way_0 rfl (lv_at hl 0 rfl) ?_
  refine va_get (D := D) (ci := 11) (v := .ref aU) (C := RX11) (T := TX11) (N := 10) hx hb hts iw_X11_way_X11 hown hK hP 0 rfl rfl 5 (by decide) (hts (.fieldLink RX11 49 "SoldHouse" "routes" "LSoldHouse$Routes;") (List.mem_of_getElem? (i := 1) rfl)) (fun _ h9 => h9) rfl dX11_way_1 ?_
  refine lv_iconst (v := 0) hx hb dX11_way_4 (by decide) ?_
  refine va_put (D := D) (ci := 7) (v := .int 0) (ty := tyX7 2) (C := RX7) (T := TX7) (N := 5) hx hb hts iw_X11_way_X7 tyX7 tyX7_ok nmX7 hown hK hP hD hS 2 rfl rfl 2 (by decide) (hts (.fieldLink RX11 187 "SoldHouse$Routes" "lying" "I") (List.mem_of_getElem? (i := 2) rfl)) (fun _ h9 => h9) rfl (by decide +kernel) rfl rfl (Nat.le_of_ble_eq_true rfl) dX11_way_5 (fun H locs hP hD hS => ?_)
  replace hP : va_P D classes [(a0, .inr (11, [.ref aP, .ref aD, .ref aT, .ref aR, .ref aF, .ref aU, .ref aH, .ref aM, .ref aW, .ref aN])), (aP, .inr (5, PF pz su)), (aU, .inr (7, [.ref aF1, .ref ul, .int 0, .ref uc, .ref ue]))] H := hP
  replace hD : va_D A [(a0, .inr (11, [.ref aP, .ref aD, .ref aT, .ref aR, .ref aF, .ref aU, .ref aH, .ref aM, .ref aW, .ref aN])), (aP, .inr (5, PF pz su)), (aU, .inr (7, [.ref aF1, .ref ul, .int 0, .ref uc, .ref ue]))] := hD
  refine lv_aload_n hx hb dX11_way_8 rfl (lv_at hl 0 rfl) ?_
  refine lv_iload_n hx hb dX11_way_9 rfl (lv_at hl 1 rfl) ?_
  have hPc := hP.sub (ws' := [(a0, .inr (11, [.ref aP, .ref aD, .ref aT, .ref aR, .ref aF, .ref aU, .ref aH, .ref aM, .ref aW, .ref aN])), (aP, .inr (5, PF pz su))]) [0, 1] rfl
  refine vp_callSi (va_runV (As := [.int x]) (rest := []) ⟨hx, hb, hml, hown, hts⟩ (c_isRoom l D cI cB cL cZ a0 aP aD aT aR aF aU aH aM aW aN pz su x) (cwV 1 hts gX11_way_X11_isRoom rfl rfl rfl (by decide +kernel) ⟨Nat.le_of_ble_eq_true rfl, Nat.le_of_ble_eq_true rfl⟩) ⟨xr_blind, va_recv hK hPc (ci := 11) (q0 := 0) rfl rfl, fun U hU hW => xr_mk hU hW hPc hK⟩ rfl rfl hl.1 rfl (lv_room (Nat.le_of_ble_eq_true rfl)) dX11_way_10 ⟨Nat.le_of_ble_eq_true rfl, Nat.le_of_ble_eq_true rfl⟩).run (fun r_1 hr_1 => ?_)
  clear hPc
  subst hr_1
  refine lv_if_eq (tgt := 24) hx hb dX11_way_13 (by decide) (fun _ => ?_) (fun c_2 => absurd (by decide) c_2)
  refine lv_iconst (v := (-1)) hx hb dX11_way_24 (by decide) ?_
  refine W.widen (k := 0) (n := 0) (Nat.le_of_ble_eq_true rfl) (Nat.le_of_ble_eq_true rfl) ?_
  exact W.iret (v := (-1)) hx hb hr (fun t ht hW => ⟨⟨(-1), (), rfl, rfl, trivial⟩, hS.F ht⟩) hS.2.2 dX11_way_25
set_option maxHeartbeats 4000000 in
set_option maxRecDepth 100000 in
theorem c_quiet (l : Launch) (D : va_G) (cI : ClassId) (cB : ClassId) (cL : ClassId) (cZ : ClassId) (a0 : Nat) (aP : Nat) (aD : Nat) (aT : Nat) (aR : Nat) (aF : Nat) (aU : Nat) (aH : Nat) (aM : Nat) (aW : Nat) (aN : Nat) (aF1 : Nat) (pz : Nat → Nat) (su : Nat) (ul : Nat) (uc : Nat) (ue : Nat) (x : Int32) (y : Int32) (sz : Nat) : Met l yX11_quiet wsX11_quiet ({ frames := 1, cells := 0, slots := 0, locals := 21 }) (xp D [(cI, .int), (cB, .byte), (cL, .long), (cZ, .boolean)] [(a0, .inr (11, [.ref aP, .ref aD, .ref aT, .ref aR, .ref aF, .ref aU, .ref aH, .ref aM, .ref aW, .ref aN])), (aP, .inr (5, PF pz su)), (aU, .inr (7, [.ref aF1, .ref ul, .int 0, .ref uc, .ref ue]))] sz [] [.ref a0, .int x, .int y]) (va_Qi (fun (r : Int32) (_ : Unit) => r = (-1)) (fun (_ : Unit) (_ : State) => True) (va_A [(a0, .inr (11, [.ref aP, .ref aD, .ref aT, .ref aR, .ref aF, .ref aU, .ref aH, .ref aM, .ref aW, .ref aN])), (aP, .inr (5, PF pz su)), (aU, .inr (7, [.ref aF1, .ref ul, .int 0, .ref uc, .ref ue]))] sz)) 0 0 (va_A [(a0, .inr (11, [.ref aP, .ref aD, .ref aT, .ref aR, .ref aF, .ref aU, .ref aH, .ref aM, .ref aW, .ref aN])), (aP, .inr (5, PF pz su)), (aU, .inr (7, [.ref aF1, .ref ul, .int 0, .ref uc, .ref ue]))] sz) := by
  refine Met.ofW (cc := cX11_quiet) (maxL := 3) (ret := (some .int)) (by decide) rfl ?_
  intro p e s m args below meth c s₁ B hml hv
  obtain ⟨rfl, hsz, hP, hK, hD0, hNw⟩ := hv
  have hx := B.exec
  have hb := B.bytes
  have hr := B.returns
  have hts := atoms_spec (ws := wsX11_quiet) B.pre
  have hown : s.vm.findClass RX11 = some m.cls := findClass_of_methodNamed B.named
  have hlocks := B.notSynchronized
  subst hsz
  have hD := hD0.self (sz := s.heap.size)
  clear hD0
  generalize hAe : va_A [(a0, .inr (11, [.ref aP, .ref aD, .ref aT, .ref aR, .ref aF, .ref aU, .ref aH, .ref aM, .ref aW, .ref aN])), (aP, .inr (5, PF pz su)), (aU, .inr (7, [.ref aF1, .ref ul, .int 0, .ref uc, .ref ue]))] s.heap.size = A at hD ⊢
  have hA : ∀ q : Nat, s.heap.size ≤ q → A q := fun q h => by rw [← hAe]; exact Or.inr h
  have hS : va_S A s.heap s.heap [] := va_S.rf
  clear hAe
  obtain ⟨H, hH⟩ : ∃ H : Heap, H = s.heap := ⟨_, rfl⟩
  obtain ⟨locs, hlocs⟩ : ∃ L : List Loc, L = [] := ⟨_, rfl⟩
  replace hP : va_P D classes [(a0, .inr (11, [.ref aP, .ref aD, .ref aT, .ref aR, .ref aF, .ref aU, .ref aH, .ref aM, .ref aW, .ref aN])), (aP, .inr (5, PF pz su)), (aU, .inr (7, [.ref aF1, .ref ul, .int 0, .ref uc, .ref ue]))] H := by rw [hH]; exact hP
  replace hS : va_S A s.heap H locs := by rw [hH, hlocs]; exact hS
  rw [← hH, ← hlocs]
  clear hlocs hH
  have hl := lv_entry ([.ref a0, .int x, .int y]) (n := 3) (Nat.le_of_ble_eq_true rfl)
  rw [lg_entry_eq]
  generalize (lg_sl ([.ref a0, .int x, .int y]) ++ List.replicate (3 - (lg_sl ([.ref a0, .int x, .int y])).length) Slot.unset).toArray = ls at hl ⊢
  replace hl : lv_has ls 3 [(0, .ref a0), (1, .int x), (2, .int y)] := hl
  refine lv_aload_n hx hb dX11_quiet_0 rfl (lv_at hl 0 rfl) ?_
  refine va_get (D := D) (ci := 11) (v := .ref aU) (C := RX11) (T := TX11) (N := 10) hx hb hts iw_X11_quiet_X11 hown hK hP 0 rfl rfl 5 (by decide) (hts (.fieldLink RX11 49 "SoldHouse" "routes" "LSoldHouse$Routes;") (List.mem_of_getElem? (i := 1) rfl)) (fun _ h9 => h9) rfl dX11_quiet_1 ?_
  refine lv_iconst (v := 0) hx hb dX11_quiet_4 (by decide) ?_
  refine va_put (D := D) (ci := 7) (v := .int 0) (ty := tyX7 2) (C := RX7) (T := TX7) (N := 5) hx hb hts iw_X11_quiet_X7 tyX7 tyX7_ok nmX7 hown hK hP hD hS 2 rfl rfl 2 (by decide) (hts (.fieldLink RX11 187 "SoldHouse$Routes" "lying" "I") (List.mem_of_getElem? (i := 2) rfl)) (fun _ h9 => h9) rfl (by decide +kernel) rfl rfl (Nat.le_of_ble_eq_true rfl) dX11_quiet_5 (fun H locs hP hD hS => ?_)
  replace hP : va_P D classes [(a0, .inr (11, [.ref aP, .ref aD, .ref aT, .ref aR, .ref aF, .ref aU, .ref aH, .ref aM, .ref aW, .ref aN])), (aP, .inr (5, PF pz su)), (aU, .inr (7, [.ref aF1, .ref ul, .int 0, .ref uc, .ref ue]))] H := hP
  replace hD : va_D A [(a0, .inr (11, [.ref aP, .ref aD, .ref aT, .ref aR, .ref aF, .ref aU, .ref aH, .ref aM, .ref aW, .ref aN])), (aP, .inr (5, PF pz su)), (aU, .inr (7, [.ref aF1, .ref ul, .int 0, .ref uc, .ref ue]))] := hD
  refine lv_aload_n hx hb dX11_quiet_8 rfl (lv_at hl 0 rfl) ?_
  refine lv_iload_n hx hb dX11_quiet_9 rfl (lv_at hl 1 rfl) ?_
  have hPc := hP.sub (ws' := [(a0, .inr (11, [.ref aP, .ref aD, .ref aT, .ref aR, .ref aF, .ref aU, .ref aH, .ref aM, .ref aW, .ref aN])), (aP, .inr (5, PF pz su))]) [0, 1] rfl
  refine vp_callSi (va_runV (As := [.int x]) (rest := []) ⟨hx, hb, hml, hown, hts⟩ (c_isRoom l D cI cB cL cZ a0 aP aD aT aR aF aU aH aM aW aN pz su x) (cwV 1 hts gX11_quiet_X11_isRoom rfl rfl rfl (by decide +kernel) ⟨Nat.le_of_ble_eq_true rfl, Nat.le_of_ble_eq_true rfl⟩) ⟨xr_blind, va_recv hK hPc (ci := 11) (q0 := 0) rfl rfl, fun U hU hW => xr_mk hU hW hPc hK⟩ rfl rfl hl.1 rfl (lv_room (Nat.le_of_ble_eq_true rfl)) dX11_quiet_10 ⟨Nat.le_of_ble_eq_true rfl, Nat.le_of_ble_eq_true rfl⟩).run (fun r_1 hr_1 => ?_)
  clear hPc
  subst hr_1
  refine lv_if_eq (tgt := 24) hx hb dX11_quiet_13 (by decide) (fun _ => ?_) (fun c_2 => absurd (by decide) c_2)
  refine lv_iconst (v := (-1)) hx hb dX11_quiet_24 (by decide) ?_
  refine W.widen (k := 0) (n := 0) (Nat.le_of_ble_eq_true rfl) (Nat.le_of_ble_eq_true rfl) ?_
  exact W.iret (v := (-1)) hx hb hr (fun t ht hW => ⟨⟨(-1), (), rfl, rfl, trivial⟩, hS.F ht⟩) hS.2.2 dX11_quiet_25
set_option maxHeartbeats 4000000 in
set_option maxRecDepth 100000 in
theorem c_tour (l : Launch) (D : va_G) (cI : ClassId) (cB : ClassId) (cL : ClassId) (cZ : ClassId) (a0 : Nat) (aP : Nat) (aD : Nat) (aT : Nat) (aR : Nat) (aF : Nat) (aU : Nat) (aH : Nat) (aM : Nat) (aW : Nat) (aN : Nat) (aF1 : Nat) (pz : Nat → Nat) (su : Nat) (ul : Nat) (uc : Nat) (ue : Nat) (x : Int32) (y : Int32) (sz : Nat) : Met l yX11_tour wsX11_tour ({ frames := 1, cells := 0, slots := 0, locals := 21 }) (xp D [(cI, .int), (cB, .byte), (cL, .long), (cZ, .boolean)] [(a0, .inr (11, [.ref aP, .ref aD, .ref aT, .ref aR, .ref aF, .ref aU, .ref aH, .ref aM, .ref aW, .ref aN])), (aP, .inr (5, PF pz su)), (aU, .inr (7, [.ref aF1, .ref ul, .int 0, .ref uc, .ref ue]))] sz [] [.ref a0, .int x, .int y]) (va_Qi (fun (r : Int32) (_ : Unit) => r = (-1)) (fun (_ : Unit) (_ : State) => True) (va_A [(a0, .inr (11, [.ref aP, .ref aD, .ref aT, .ref aR, .ref aF, .ref aU, .ref aH, .ref aM, .ref aW, .ref aN])), (aP, .inr (5, PF pz su)), (aU, .inr (7, [.ref aF1, .ref ul, .int 0, .ref uc, .ref ue]))] sz)) 0 0 (va_A [(a0, .inr (11, [.ref aP, .ref aD, .ref aT, .ref aR, .ref aF, .ref aU, .ref aH, .ref aM, .ref aW, .ref aN])), (aP, .inr (5, PF pz su)), (aU, .inr (7, [.ref aF1, .ref ul, .int 0, .ref uc, .ref ue]))] sz) := by
  refine Met.ofW (cc := cX11_tour) (maxL := 3) (ret := (some .int)) (by decide) rfl ?_
  intro p e s m args below meth c s₁ B hml hv
  obtain ⟨rfl, hsz, hP, hK, hD0, hNw⟩ := hv
  have hx := B.exec
  have hb := B.bytes
  have hr := B.returns
  have hts := atoms_spec (ws := wsX11_tour) B.pre
  have hown : s.vm.findClass RX11 = some m.cls := findClass_of_methodNamed B.named
  have hlocks := B.notSynchronized
  subst hsz
  have hD := hD0.self (sz := s.heap.size)
  clear hD0
  generalize hAe : va_A [(a0, .inr (11, [.ref aP, .ref aD, .ref aT, .ref aR, .ref aF, .ref aU, .ref aH, .ref aM, .ref aW, .ref aN])), (aP, .inr (5, PF pz su)), (aU, .inr (7, [.ref aF1, .ref ul, .int 0, .ref uc, .ref ue]))] s.heap.size = A at hD ⊢
  have hA : ∀ q : Nat, s.heap.size ≤ q → A q := fun q h => by rw [← hAe]; exact Or.inr h
  have hS : va_S A s.heap s.heap [] := va_S.rf
  clear hAe
  obtain ⟨H, hH⟩ : ∃ H : Heap, H = s.heap := ⟨_, rfl⟩
  obtain ⟨locs, hlocs⟩ : ∃ L : List Loc, L = [] := ⟨_, rfl⟩
  replace hP : va_P D classes [(a0, .inr (11, [.ref aP, .ref aD, .ref aT, .ref aR, .ref aF, .ref aU, .ref aH, .ref aM, .ref aW, .ref aN])), (aP, .inr (5, PF pz su)), (aU, .inr (7, [.ref aF1, .ref ul, .int 0, .ref uc, .ref ue]))] H := by rw [hH]; exact hP
  replace hS : va_S A s.heap H locs := by rw [hH, hlocs]; exact hS
  rw [← hH, ← hlocs]
  clear hlocs hH
  have hl := lv_entry ([.ref a0, .int x, .int y]) (n := 3) (Nat.le_of_ble_eq_true rfl)
  rw [lg_entry_eq]
  generalize (lg_sl ([.ref a0, .int x, .int y]) ++ List.replicate (3 - (lg_sl ([.ref a0, .int x, .int y])).length) Slot.unset).toArray = ls at hl ⊢
  replace hl : lv_has ls 3 [(0, .ref a0), (1, .int x), (2, .int y)] := hl
  refine lv_aload_n hx hb dX11_tour_0 rfl (lv_at hl 0 rfl) ?_
  refine va_get (D := D) (ci := 11) (v := .ref aU) (C := RX11) (T := TX11) (N := 10) hx hb hts iw_X11_tour_X11 hown hK hP 0 rfl rfl 5 (by decide) (hts (.fieldLink RX11 49 "SoldHouse" "routes" "LSoldHouse$Routes;") (List.mem_of_getElem? (i := 1) rfl)) (fun _ h9 => h9) rfl dX11_tour_1 ?_
  refine lv_iconst (v := 0) hx hb dX11_tour_4 (by decide) ?_
  refine va_put (D := D) (ci := 7) (v := .int 0) (ty := tyX7 2) (C := RX7) (T := TX7) (N := 5) hx hb hts iw_X11_tour_X7 tyX7 tyX7_ok nmX7 hown hK hP hD hS 2 rfl rfl 2 (by decide) (hts (.fieldLink RX11 187 "SoldHouse$Routes" "lying" "I") (List.mem_of_getElem? (i := 2) rfl)) (fun _ h9 => h9) rfl (by decide +kernel) rfl rfl (Nat.le_of_ble_eq_true rfl) dX11_tour_5 (fun H locs hP hD hS => ?_)
  replace hP : va_P D classes [(a0, .inr (11, [.ref aP, .ref aD, .ref aT, .ref aR, .ref aF, .ref aU, .ref aH, .ref aM, .ref aW, .ref aN])), (aP, .inr (5, PF pz su)), (aU, .inr (7, [.ref aF1, .ref ul, .int 0, .ref uc, .ref ue]))] H := hP
  replace hD : va_D A [(a0, .inr (11, [.ref aP, .ref aD, .ref aT, .ref aR, .ref aF, .ref aU, .ref aH, .ref aM, .ref aW, .ref aN])), (aP, .inr (5, PF pz su)), (aU, .inr (7, [.ref aF1, .ref ul, .int 0, .ref uc, .ref ue]))] := hD
  refine lv_aload_n hx hb dX11_tour_8 rfl (lv_at hl 0 rfl) ?_
  refine lv_iload_n hx hb dX11_tour_9 rfl (lv_at hl 1 rfl) ?_
  have hPc := hP.sub (ws' := [(a0, .inr (11, [.ref aP, .ref aD, .ref aT, .ref aR, .ref aF, .ref aU, .ref aH, .ref aM, .ref aW, .ref aN])), (aP, .inr (5, PF pz su))]) [0, 1] rfl
  refine vp_callSi (va_runV (As := [.int x]) (rest := []) ⟨hx, hb, hml, hown, hts⟩ (c_isRoom l D cI cB cL cZ a0 aP aD aT aR aF aU aH aM aW aN pz su x) (cwV 1 hts gX11_tour_X11_isRoom rfl rfl rfl (by decide +kernel) ⟨Nat.le_of_ble_eq_true rfl, Nat.le_of_ble_eq_true rfl⟩) ⟨xr_blind, va_recv hK hPc (ci := 11) (q0 := 0) rfl rfl, fun U hU hW => xr_mk hU hW hPc hK⟩ rfl rfl hl.1 rfl (lv_room (Nat.le_of_ble_eq_true rfl)) dX11_tour_10 ⟨Nat.le_of_ble_eq_true rfl, Nat.le_of_ble_eq_true rfl⟩).run (fun r_1 hr_1 => ?_)
  clear hPc
  subst hr_1
  refine lv_if_eq (tgt := 24) hx hb dX11_tour_13 (by decide) (fun _ => ?_) (fun c_2 => absurd (by decide) c_2)
  refine lv_iconst (v := (-1)) hx hb dX11_tour_24 (by decide) ?_
  refine W.widen (k := 0) (n := 0) (Nat.le_of_ble_eq_true rfl) (Nat.le_of_ble_eq_true rfl) ?_
  exact W.iret (v := (-1)) hx hb hr (fun t ht hW => ⟨⟨(-1), (), rfl, rfl, trivial⟩, hS.F ht⟩) hS.2.2 dX11_tour_25
set_option maxHeartbeats 4000000 in
set_option maxRecDepth 100000 in
theorem c_moveOn (l : Launch) (D : va_G) (cI : ClassId) (cB : ClassId) (cL : ClassId) (cZ : ClassId) (a0 : Nat) (aF : Nat) (n3 : Nat) (n4 : Nat) (n5 : Nat) (n6 : Nat) (n7 : Nat) (n8 : Nat) (n9 : Nat) (x : Int32) (sz : Nat) : Met l yX4_moveOn wsX4_moveOn ({ frames := 0, cells := 0, slots := 0, locals := 0 }) (xp D [(cI, .int), (cB, .byte), (cL, .long), (cZ, .boolean)] [(a0, .inr (4, [.ref aF, .int 0, .int 0, .ref n3, .ref n4, .ref n5, .ref n6, .ref n7, .ref n8, .ref n9]))] sz [] [.ref a0, .int x]) (va_Qi (fun (r : Int32) (_ : Unit) => r = sp_later x) (fun (_ : Unit) (_ : State) => True) (va_A [(a0, .inr (4, [.ref aF, .int 0, .int 0, .ref n3, .ref n4, .ref n5, .ref n6, .ref n7, .ref n8, .ref n9]))] sz)) 0 0 (va_A [(a0, .inr (4, [.ref aF, .int 0, .int 0, .ref n3, .ref n4, .ref n5, .ref n6, .ref n7, .ref n8, .ref n9]))] sz) := by
  refine Met.ofW (cc := cX4_moveOn) (maxL := 2) (ret := (some .int)) (by decide) rfl ?_
  intro p e s m args below meth c s₁ B hml hv
  obtain ⟨rfl, hsz, hP, hK, hD0, hNw⟩ := hv
  have hx := B.exec
  have hb := B.bytes
  have hr := B.returns
  have hts := atoms_spec (ws := wsX4_moveOn) B.pre
  have hown : s.vm.findClass RX4 = some m.cls := findClass_of_methodNamed B.named
  have hlocks := B.notSynchronized
  subst hsz
  have hD := hD0.self (sz := s.heap.size)
  clear hD0
  generalize hAe : va_A [(a0, .inr (4, [.ref aF, .int 0, .int 0, .ref n3, .ref n4, .ref n5, .ref n6, .ref n7, .ref n8, .ref n9]))] s.heap.size = A at hD ⊢
  have hA : ∀ q : Nat, s.heap.size ≤ q → A q := fun q h => by rw [← hAe]; exact Or.inr h
  have hS : va_S A s.heap s.heap [] := va_S.rf
  clear hAe
  obtain ⟨H, hH⟩ : ∃ H : Heap, H = s.heap := ⟨_, rfl⟩
  obtain ⟨locs, hlocs⟩ : ∃ L : List Loc, L = [] := ⟨_, rfl⟩
  replace hP : va_P D classes [(a0, .inr (4, [.ref aF, .int 0, .int 0, .ref n3, .ref n4, .ref n5, .ref n6, .ref n7, .ref n8, .ref n9]))] H := by rw [hH]; exact hP
  replace hS : va_S A s.heap H locs := by rw [hH, hlocs]; exact hS
  rw [← hH, ← hlocs]
  clear hlocs hH
  have hl := lv_entry ([.ref a0, .int x]) (n := 2) (Nat.le_of_ble_eq_true rfl)
  rw [lg_entry_eq]
  generalize (lg_sl ([.ref a0, .int x]) ++ List.replicate (2 - (lg_sl ([.ref a0, .int x])).length) Slot.unset).toArray = ls at hl ⊢
  replace hl : lv_has ls 2 [(0, .ref a0), (1, .int x)] := hl
  refine lv_iload_n hx hb dX4_moveOn_0 rfl (lv_at hl 1 rfl) ?_
  refine lv_if_lt (tgt := 22) hx hb dX4_moveOn_1 (by decide) (fun c_1 => ?_) (fun c_1 => ?_)
  · refine lv_iconst (v := (-1)) hx hb dX4_moveOn_22 (by decide) ?_
    refine W.widen (k := 0) (n := 0) (Nat.le_of_ble_eq_true rfl) (Nat.le_of_ble_eq_true rfl) ?_
    exact W.iret (v := (-1)) hx hb hr (fun t ht hW => ⟨⟨(-1), (), rfl, (sp_later_lt c_1).symm, trivial⟩, hS.F ht⟩) hS.2.2 dX4_moveOn_23
  · refine lv_iload_n hx hb dX4_moveOn_4 rfl (lv_at hl 1 rfl) ?_
    refine lv_sipush (v := 1000) hx hb dX4_moveOn_5 (by decide) ?_
    refine lv_icmp_gt (tgt := 22) hx hb dX4_moveOn_8 (by decide) (fun c_2 => ?_) (fun c_2 => ?_)
    · refine lv_iconst (v := (-1)) hx hb dX4_moveOn_22 (by decide) ?_
      refine W.widen (k := 0) (n := 0) (Nat.le_of_ble_eq_true rfl) (Nat.le_of_ble_eq_true rfl) ?_
      exact W.iret (v := (-1)) hx hb hr (fun t ht hW => ⟨⟨(-1), (), rfl, (sp_later_gt c_1 c_2).symm, trivial⟩, hS.F ht⟩) hS.2.2 dX4_moveOn_23
    · refine lv_iload_n hx hb dX4_moveOn_11 rfl (lv_at hl 1 rfl) ?_
      refine lv_ldc hx hb hown (hts (.constant RX4 44 (100000)) (List.mem_of_getElem? (i := 1) rfl)) dX4_moveOn_12 ?_
      refine lv_aload_n hx hb dX4_moveOn_14 rfl (lv_at hl 0 rfl) ?_
      refine va_get (D := D) (ci := 4) (v := .int 0) (C := RX4) (T := TX4) (N := 10) hx hb hts iw_X4_moveOn_X4 hown hK hP 0 rfl rfl 2 (by decide) (hts (.fieldLink RX4 41 "SoldHouse$Night" "time" "I") (List.mem_of_getElem? (i := 2) rfl)) (fun _ h9 => h9) rfl dX4_moveOn_15 ?_
      refine lv_isub hx hb dX4_moveOn_18 ?_
      refine lv_topi (fun y_3 ey_3 => ?_)
      obtain rfl : y_3 = 100000 := ey_3.trans (by decide)
      refine lv_icmp_le (tgt := 24) hx hb dX4_moveOn_19 (by decide) (fun c_4 => ?_) (fun c_4 => ?_)
      · refine lv_aload_n hx hb dX4_moveOn_24 rfl (lv_at hl 0 rfl) ?_
        refine lv_dup hx hb dX4_moveOn_25 rfl ?_
        refine va_get (D := D) (ci := 4) (v := .int 0) (C := RX4) (T := TX4) (N := 10) hx hb hts iw_X4_moveOn_X4 hown hK hP 0 rfl rfl 2 (by decide) (hts (.fieldLink RX4 41 "SoldHouse$Night" "time" "I") (List.mem_of_getElem? (i := 2) rfl)) (fun _ h9 => h9) rfl dX4_moveOn_26 ?_
        refine lv_iload_n hx hb dX4_moveOn_29 rfl (lv_at hl 1 rfl) ?_
        refine lv_iadd hx hb dX4_moveOn_30 ?_
        refine lv_topi (fun y_5 ey_5 => ?_)
        rw [Int32.zero_add] at ey_5
        replace ey_5 := ey_5.symm
        subst ey_5
        refine va_put (D := D) (ci := 4) (v := .int x) (ty := tyX4 2) (C := RX4) (T := TX4) (N := 10) hx hb hts iw_X4_moveOn_X4 tyX4 tyX4_ok nmX4 hown hK hP hD hS 0 rfl rfl 2 (by decide) (hts (.fieldLink RX4 41 "SoldHouse$Night" "time" "I") (List.mem_of_getElem? (i := 2) rfl)) (fun _ h9 => h9) rfl (by decide +kernel) rfl rfl (Nat.le_of_ble_eq_true rfl) dX4_moveOn_31 (fun H locs hP hD hS => ?_)
        replace hP : va_P D classes [(a0, .inr (4, [.ref aF, .int 0, .int x, .ref n3, .ref n4, .ref n5, .ref n6, .ref n7, .ref n8, .ref n9]))] H := hP
        replace hD : va_D A [(a0, .inr (4, [.ref aF, .int 0, .int x, .ref n3, .ref n4, .ref n5, .ref n6, .ref n7, .ref n8, .ref n9]))] := hD
        refine lv_aload_n hx hb dX4_moveOn_34 rfl (lv_at hl 0 rfl) ?_
        refine va_get (D := D) (ci := 4) (v := .int x) (C := RX4) (T := TX4) (N := 10) hx hb hts iw_X4_moveOn_X4 hown hK hP 0 rfl rfl 2 (by decide) (hts (.fieldLink RX4 41 "SoldHouse$Night" "time" "I") (List.mem_of_getElem? (i := 2) rfl)) (fun _ h9 => h9) rfl dX4_moveOn_35 ?_
        refine W.widen (k := 0) (n := 0) (Nat.le_of_ble_eq_true rfl) (Nat.le_of_ble_eq_true rfl) ?_
        exact W.iret (v := x) hx hb hr (fun t ht hW => ⟨⟨x, (), rfl, (sp_later_in c_1 c_2).symm, trivial⟩, hS.F ht⟩) hS.2.2 dX4_moveOn_38
      · exact (zz_ab3 (Int32.not_le.mp c_4) c_2 (by decide)).elim
set_option maxHeartbeats 4000000 in
set_option maxRecDepth 100000 in
theorem c_later (l : Launch) (D : va_G) (cI : ClassId) (cB : ClassId) (cL : ClassId) (cZ : ClassId) (a0 : Nat) (aP : Nat) (aD : Nat) (aT : Nat) (aR : Nat) (aF : Nat) (aU : Nat) (aH : Nat) (aM : Nat) (aW : Nat) (aN : Nat) (aF1 : Nat) (n3 : Nat) (n4 : Nat) (n5 : Nat) (n6 : Nat) (n7 : Nat) (n8 : Nat) (n9 : Nat) (x : Int32) (sz : Nat) : Met l yX11_later wsX11_later ({ frames := 1, cells := 0, slots := 0, locals := 21 }) (xp D [(cI, .int), (cB, .byte), (cL, .long), (cZ, .boolean)] [(a0, .inr (11, [.ref aP, .ref aD, .ref aT, .ref aR, .ref aF, .ref aU, .ref aH, .ref aM, .ref aW, .ref aN])), (aN, .inr (4, [.ref aF1, .int 0, .int 0, .ref n3, .ref n4, .ref n5, .ref n6, .ref n7, .ref n8, .ref n9]))] sz [] [.ref a0, .int x]) (va_Qi (fun (r : Int32) (_ : Unit) => r = sp_later x) (fun (_ : Unit) (_ : State) => True) (va_A [(a0, .inr (11, [.ref aP, .ref aD, .ref aT, .ref aR, .ref aF, .ref aU, .ref aH, .ref aM, .ref aW, .ref aN])), (aN, .inr (4, [.ref aF1, .int 0, .int 0, .ref n3, .ref n4, .ref n5, .ref n6, .ref n7, .ref n8, .ref n9]))] sz)) 0 0 (va_A [(a0, .inr (11, [.ref aP, .ref aD, .ref aT, .ref aR, .ref aF, .ref aU, .ref aH, .ref aM, .ref aW, .ref aN])), (aN, .inr (4, [.ref aF1, .int 0, .int 0, .ref n3, .ref n4, .ref n5, .ref n6, .ref n7, .ref n8, .ref n9]))] sz) := by
  refine Met.ofW (cc := cX11_later) (maxL := 2) (ret := (some .int)) (by decide) rfl ?_
  intro p e s m args below meth c s₁ B hml hv
  obtain ⟨rfl, hsz, hP, hK, hD0, hNw⟩ := hv
  have hx := B.exec
  have hb := B.bytes
  have hr := B.returns
  have hts := atoms_spec (ws := wsX11_later) B.pre
  have hown : s.vm.findClass RX11 = some m.cls := findClass_of_methodNamed B.named
  have hlocks := B.notSynchronized
  subst hsz
  have hD := hD0.self (sz := s.heap.size)
  clear hD0
  generalize hAe : va_A [(a0, .inr (11, [.ref aP, .ref aD, .ref aT, .ref aR, .ref aF, .ref aU, .ref aH, .ref aM, .ref aW, .ref aN])), (aN, .inr (4, [.ref aF1, .int 0, .int 0, .ref n3, .ref n4, .ref n5, .ref n6, .ref n7, .ref n8, .ref n9]))] s.heap.size = A at hD ⊢
  have hA : ∀ q : Nat, s.heap.size ≤ q → A q := fun q h => by rw [← hAe]; exact Or.inr h
  have hS : va_S A s.heap s.heap [] := va_S.rf
  clear hAe
  obtain ⟨H, hH⟩ : ∃ H : Heap, H = s.heap := ⟨_, rfl⟩
  obtain ⟨locs, hlocs⟩ : ∃ L : List Loc, L = [] := ⟨_, rfl⟩
  replace hP : va_P D classes [(a0, .inr (11, [.ref aP, .ref aD, .ref aT, .ref aR, .ref aF, .ref aU, .ref aH, .ref aM, .ref aW, .ref aN])), (aN, .inr (4, [.ref aF1, .int 0, .int 0, .ref n3, .ref n4, .ref n5, .ref n6, .ref n7, .ref n8, .ref n9]))] H := by rw [hH]; exact hP
  replace hS : va_S A s.heap H locs := by rw [hH, hlocs]; exact hS
  rw [← hH, ← hlocs]
  clear hlocs hH
  have hl := lv_entry ([.ref a0, .int x]) (n := 2) (Nat.le_of_ble_eq_true rfl)
  rw [lg_entry_eq]
  generalize (lg_sl ([.ref a0, .int x]) ++ List.replicate (2 - (lg_sl ([.ref a0, .int x])).length) Slot.unset).toArray = ls at hl ⊢
  replace hl : lv_has ls 2 [(0, .ref a0), (1, .int x)] := hl
  refine lv_aload_n hx hb dX11_later_0 rfl (lv_at hl 0 rfl) ?_
  refine va_get (D := D) (ci := 11) (v := .ref aN) (C := RX11) (T := TX11) (N := 10) hx hb hts iw_X11_later_X11 hown hK hP 0 rfl rfl 9 (by decide) (hts (.fieldLink RX11 79 "SoldHouse" "night" "LSoldHouse$Night;") (List.mem_of_getElem? (i := 1) rfl)) (fun _ h9 => h9) rfl dX11_later_1 ?_
  refine lv_iload_n hx hb dX11_later_4 rfl (lv_at hl 1 rfl) ?_
  have hPc := hP.sub (ws' := [(aN, .inr (4, [.ref aF1, .int 0, .int 0, .ref n3, .ref n4, .ref n5, .ref n6, .ref n7, .ref n8, .ref n9]))]) [1] rfl
  have hDc := hD.sub (ws' := [(aN, .inr (4, [.ref aF1, .int 0, .int 0, .ref n3, .ref n4, .ref n5, .ref n6, .ref n7, .ref n8, .ref n9]))]) [1] (by decide) rfl
  have hFc := va_free (wc := [(aN, .inr (4, [.ref aF1, .int 0, .int 0, .ref n3, .ref n4, .ref n5, .ref n6, .ref n7, .ref n8, .ref n9]))]) hD hS hA [1] rfl
  refine va_calli (va_runV (As := [.int x]) (rest := []) ⟨hx, hb, hml, hown, hts⟩ (c_moveOn l D cI cB cL cZ aN aF1 n3 n4 n5 n6 n7 n8 n9 x H.size) (cwV 1 hts gX11_later_X4_moveOn rfl rfl rfl (by decide +kernel) ⟨Nat.le_of_ble_eq_true rfl, Nat.le_of_ble_eq_true rfl⟩) ⟨xp_blind, va_recv hK hPc (ci := 4) (q0 := 0) rfl rfl, fun U hU hW => xp_mk hU hW hPc hK hDc xNw_nil⟩ rfl rfl hl.1 rfl (lv_room (Nat.le_of_ble_eq_true rfl)) dX11_later_5 ⟨Nat.le_of_ble_eq_true rfl, Nat.le_of_ble_eq_true rfl⟩) hS (fun q _ h => hFc q h) hFc (fun r_1 u9 t9 H1 locs ht9 hvm9 hr_1 hB9 hz9 hk9 hS => ?_)
  clear hB9 hz9 hPc hDc
  obtain ⟨hP, hD⟩ := va_join (wr := [(a0, .inr (11, [.ref aP, .ref aD, .ref aT, .ref aR, .ref aF, .ref aU, .ref aH, .ref aM, .ref aW, .ref aN]))]) (w1 := []) hP hD [1] [0] rfl rfl (by decide) (by decide) hk9 hFc (fun k q h => by simp at h) ⟨fun i j p q h => by simp at h, fun k q h => by simp at h⟩
  clear hk9 hFc ht9 hvm9
  generalize H1 = H at hP hS ⊢
  replace hP : va_P D classes [(a0, .inr (11, [.ref aP, .ref aD, .ref aT, .ref aR, .ref aF, .ref aU, .ref aH, .ref aM, .ref aW, .ref aN]))] H := hP
  replace hD : va_D A [(a0, .inr (11, [.ref aP, .ref aD, .ref aT, .ref aR, .ref aF, .ref aU, .ref aH, .ref aM, .ref aW, .ref aN]))] := hD
  subst hr_1
  refine W.widen (k := 0) (n := 0) (Nat.le_of_ble_eq_true rfl) (Nat.le_of_ble_eq_true rfl) ?_
  exact W.iret (v := sp_later x) hx hb hr (fun t ht hW => ⟨⟨sp_later x, (), rfl, rfl, trivial⟩, hS.F ht⟩) hS.2.2 dX11_later_8
set_option maxHeartbeats 4000000 in
set_option maxRecDepth 100000 in
theorem c_note (l : Launch) (D : va_G) (cI : ClassId) (cB : ClassId) (cL : ClassId) (cZ : ClassId) (a0 : Nat) (aF : Nat) (n3 : Nat) (n4 : Nat) (n5 : Nat) (n6 : Nat) (n7 : Nat) (n8 : Nat) (n9 : Nat) (g3 : Nat → Int32) (g4 : Nat → Int32) (g5 : Nat → Int32) (g6 : Nat → Int32) (x : Int32) (y : Int32) (z : Int32) (sz : Nat) : Met l yX4_note wsX4_note ({ frames := 0, cells := 0, slots := 0, locals := 0 }) (xp D [(cI, .int), (cB, .byte), (cL, .long), (cZ, .boolean)] [(a0, .inr (4, [.ref aF, .int 0, .int 0, .ref n3, .ref n4, .ref n5, .ref n6, .ref n7, .ref n8, .ref n9])), (n3, .inl (cI, 30, .inl g3)), (n4, .inl (cI, 30, .inl g4)), (n5, .inl (cI, 30, .inl g5)), (n6, .inl (cI, 30, .inl g6))] sz [] [.ref a0, .int x, .int y, .int z]) (va_Qi (fun (r : Int32) (_ : Unit) => r = 0) (fun (_ : Unit) (_ : State) => True) (va_A [(a0, .inr (4, [.ref aF, .int 0, .int 0, .ref n3, .ref n4, .ref n5, .ref n6, .ref n7, .ref n8, .ref n9])), (n3, .inl (cI, 30, .inl g3)), (n4, .inl (cI, 30, .inl g4)), (n5, .inl (cI, 30, .inl g5)), (n6, .inl (cI, 30, .inl g6))] sz)) 0 0 (va_A [(a0, .inr (4, [.ref aF, .int 0, .int 0, .ref n3, .ref n4, .ref n5, .ref n6, .ref n7, .ref n8, .ref n9])), (n3, .inl (cI, 30, .inl g3)), (n4, .inl (cI, 30, .inl g4)), (n5, .inl (cI, 30, .inl g5)), (n6, .inl (cI, 30, .inl g6))] sz) := by
  refine Met.ofW (cc := cX4_note) (maxL := 4) (ret := (some .int)) (by decide) rfl ?_
  intro p e s m args below meth c s₁ B hml hv
  obtain ⟨rfl, hsz, hP, hK, hD0, hNw⟩ := hv
  have hx := B.exec
  have hb := B.bytes
  have hr := B.returns
  have hts := atoms_spec (ws := wsX4_note) B.pre
  have hown : s.vm.findClass RX4 = some m.cls := findClass_of_methodNamed B.named
  have hlocks := B.notSynchronized
  subst hsz
  have hD := hD0.self (sz := s.heap.size)
  clear hD0
  generalize hAe : va_A [(a0, .inr (4, [.ref aF, .int 0, .int 0, .ref n3, .ref n4, .ref n5, .ref n6, .ref n7, .ref n8, .ref n9])), (n3, .inl (cI, 30, .inl g3)), (n4, .inl (cI, 30, .inl g4)), (n5, .inl (cI, 30, .inl g5)), (n6, .inl (cI, 30, .inl g6))] s.heap.size = A at hD ⊢
  have hA : ∀ q : Nat, s.heap.size ≤ q → A q := fun q h => by rw [← hAe]; exact Or.inr h
  have hS : va_S A s.heap s.heap [] := va_S.rf
  clear hAe
  obtain ⟨H, hH⟩ : ∃ H : Heap, H = s.heap := ⟨_, rfl⟩
  obtain ⟨locs, hlocs⟩ : ∃ L : List Loc, L = [] := ⟨_, rfl⟩
  replace hP : va_P D classes [(a0, .inr (4, [.ref aF, .int 0, .int 0, .ref n3, .ref n4, .ref n5, .ref n6, .ref n7, .ref n8, .ref n9])), (n3, .inl (cI, 30, .inl g3)), (n4, .inl (cI, 30, .inl g4)), (n5, .inl (cI, 30, .inl g5)), (n6, .inl (cI, 30, .inl g6))] H := by rw [hH]; exact hP
  replace hS : va_S A s.heap H locs := by rw [hH, hlocs]; exact hS
  rw [← hH, ← hlocs]
  clear hlocs hH
  have hl := lv_entry ([.ref a0, .int x, .int y, .int z]) (n := 4) (Nat.le_of_ble_eq_true rfl)
  rw [lg_entry_eq]
  generalize (lg_sl ([.ref a0, .int x, .int y, .int z]) ++ List.replicate (4 - (lg_sl ([.ref a0, .int x, .int y, .int z])).length) Slot.unset).toArray = ls at hl ⊢
  replace hl : lv_has ls 4 [(0, .ref a0), (1, .int x), (2, .int y), (3, .int z)] := hl
  refine lv_aload_n hx hb dX4_note_0 rfl (lv_at hl 0 rfl) ?_
  refine va_get (D := D) (ci := 4) (v := .int 0) (C := RX4) (T := TX4) (N := 10) hx hb hts iw_X4_note_X4 hown hK hP 0 rfl rfl 1 (by decide) (hts (.fieldLink RX4 37 "SoldHouse$Night" "count" "I") (List.mem_of_getElem? (i := 1) rfl)) (fun _ h9 => h9) rfl dX4_note_1 ?_
  refine lv_bipush (v := 30) hx hb dX4_note_4 (by decide) ?_
  refine lv_icmp_lt (tgt := 11) hx hb dX4_note_6 (by decide) (fun _ => ?_) (fun c_1 => absurd (by decide) c_1)
  refine lv_aload_n hx hb dX4_note_11 rfl (lv_at hl 0 rfl) ?_
  refine va_get (D := D) (ci := 4) (v := .ref n3) (C := RX4) (T := TX4) (N := 10) hx hb hts iw_X4_note_X4 hown hK hP 0 rfl rfl 3 (by decide) (hts (.fieldLink RX4 11 "SoldHouse$Night" "minute" "[I") (List.mem_of_getElem? (i := 2) rfl)) (fun _ h9 => h9) rfl dX4_note_12 ?_
  refine lv_aload_n hx hb dX4_note_15 rfl (lv_at hl 0 rfl) ?_
  refine va_get (D := D) (ci := 4) (v := .int 0) (C := RX4) (T := TX4) (N := 10) hx hb hts iw_X4_note_X4 hown hK hP 0 rfl rfl 1 (by decide) (hts (.fieldLink RX4 37 "SoldHouse$Night" "count" "I") (List.mem_of_getElem? (i := 1) rfl)) (fun _ h9 => h9) rfl dX4_note_16 ?_
  refine lv_iload_n hx hb dX4_note_19 rfl (lv_at hl 1 rfl) ?_
  refine va_iast hx hb hK hP hD hS 1 0 rfl rfl (show vp_in 0 30 from (by decide : ¬ ((0 : Int32) < 0 ∨ 30 ≤ Int32.toNatClampNeg 0))) dX4_note_20 (fun H locs hP hD hS => ?_)
  replace hP : va_P D classes [(a0, .inr (4, [.ref aF, .int 0, .int 0, .ref n3, .ref n4, .ref n5, .ref n6, .ref n7, .ref n8, .ref n9])), (n3, .inl (cI, 30, .inl (upd g3 (Int32.toNatClampNeg 0) x))), (n4, .inl (cI, 30, .inl g4)), (n5, .inl (cI, 30, .inl g5)), (n6, .inl (cI, 30, .inl g6))] H := hP
  replace hD : va_D A [(a0, .inr (4, [.ref aF, .int 0, .int 0, .ref n3, .ref n4, .ref n5, .ref n6, .ref n7, .ref n8, .ref n9])), (n3, .inl (cI, 30, .inl (upd g3 (Int32.toNatClampNeg 0) x))), (n4, .inl (cI, 30, .inl g4)), (n5, .inl (cI, 30, .inl g5)), (n6, .inl (cI, 30, .inl g6))] := hD
  generalize eg_2 : upd g3 (Int32.toNatClampNeg 0) x = g_2 at hP hD
  clear eg_2
  refine lv_aload_n hx hb dX4_note_21 rfl (lv_at hl 0 rfl) ?_
  refine va_get (D := D) (ci := 4) (v := .ref n4) (C := RX4) (T := TX4) (N := 10) hx hb hts iw_X4_note_X4 hown hK hP 0 rfl rfl 4 (by decide) (hts (.fieldLink RX4 15 "SoldHouse$Night" "rooms" "[I") (List.mem_of_getElem? (i := 3) rfl)) (fun _ h9 => h9) rfl dX4_note_22 ?_
  refine lv_aload_n hx hb dX4_note_25 rfl (lv_at hl 0 rfl) ?_
  refine va_get (D := D) (ci := 4) (v := .int 0) (C := RX4) (T := TX4) (N := 10) hx hb hts iw_X4_note_X4 hown hK hP 0 rfl rfl 1 (by decide) (hts (.fieldLink RX4 37 "SoldHouse$Night" "count" "I") (List.mem_of_getElem? (i := 1) rfl)) (fun _ h9 => h9) rfl dX4_note_26 ?_
  refine lv_iload_n hx hb dX4_note_29 rfl (lv_at hl 3 rfl) ?_
  refine lv_if_eq (tgt := 37) hx hb dX4_note_30 (by decide) (fun c_3 => ?_) (fun c_3 => ?_)
  · obtain rfl : z = 0 := c_3
    refine lv_iload_n hx hb dX4_note_37 rfl (lv_at hl 2 rfl) ?_
    refine lv_iconst (v := (-1)) hx hb dX4_note_38 (by decide) ?_
    refine lv_ixor hx hb dX4_note_39 ?_
    refine lv_topi (fun y_4 ey_4 => ?_)
    refine va_iast hx hb hK hP hD hS 2 0 rfl rfl (show vp_in 0 30 from (by decide : ¬ ((0 : Int32) < 0 ∨ 30 ≤ Int32.toNatClampNeg 0))) dX4_note_40 (fun H locs hP hD hS => ?_)
    replace hP : va_P D classes [(a0, .inr (4, [.ref aF, .int 0, .int 0, .ref n3, .ref n4, .ref n5, .ref n6, .ref n7, .ref n8, .ref n9])), (n3, .inl (cI, 30, .inl g_2)), (n4, .inl (cI, 30, .inl (upd g4 (Int32.toNatClampNeg 0) y_4))), (n5, .inl (cI, 30, .inl g5)), (n6, .inl (cI, 30, .inl g6))] H := hP
    replace hD : va_D A [(a0, .inr (4, [.ref aF, .int 0, .int 0, .ref n3, .ref n4, .ref n5, .ref n6, .ref n7, .ref n8, .ref n9])), (n3, .inl (cI, 30, .inl g_2)), (n4, .inl (cI, 30, .inl (upd g4 (Int32.toNatClampNeg 0) y_4))), (n5, .inl (cI, 30, .inl g5)), (n6, .inl (cI, 30, .inl g6))] := hD
    generalize eg_5 : upd g4 (Int32.toNatClampNeg 0) y_4 = g_5 at hP hD
    clear eg_5
    refine lv_aload_n hx hb dX4_note_41 rfl (lv_at hl 0 rfl) ?_
    refine va_get (D := D) (ci := 4) (v := .ref n5) (C := RX4) (T := TX4) (N := 10) hx hb hts iw_X4_note_X4 hown hK hP 0 rfl rfl 5 (by decide) (hts (.fieldLink RX4 18 "SoldHouse$Night" "toldAt" "[I") (List.mem_of_getElem? (i := 4) rfl)) (fun _ h9 => h9) rfl dX4_note_42 ?_
    refine lv_aload_n hx hb dX4_note_45 rfl (lv_at hl 0 rfl) ?_
    refine va_get (D := D) (ci := 4) (v := .int 0) (C := RX4) (T := TX4) (N := 10) hx hb hts iw_X4_note_X4 hown hK hP 0 rfl rfl 1 (by decide) (hts (.fieldLink RX4 37 "SoldHouse$Night" "count" "I") (List.mem_of_getElem? (i := 1) rfl)) (fun _ h9 => h9) rfl dX4_note_46 ?_
    refine lv_aload_n hx hb dX4_note_49 rfl (lv_at hl 0 rfl) ?_
    refine va_get (D := D) (ci := 4) (v := .int 0) (C := RX4) (T := TX4) (N := 10) hx hb hts iw_X4_note_X4 hown hK hP 0 rfl rfl 2 (by decide) (hts (.fieldLink RX4 41 "SoldHouse$Night" "time" "I") (List.mem_of_getElem? (i := 5) rfl)) (fun _ h9 => h9) rfl dX4_note_50 ?_
    refine va_iast hx hb hK hP hD hS 3 0 rfl rfl (show vp_in 0 30 from (by decide : ¬ ((0 : Int32) < 0 ∨ 30 ≤ Int32.toNatClampNeg 0))) dX4_note_53 (fun H locs hP hD hS => ?_)
    replace hP : va_P D classes [(a0, .inr (4, [.ref aF, .int 0, .int 0, .ref n3, .ref n4, .ref n5, .ref n6, .ref n7, .ref n8, .ref n9])), (n3, .inl (cI, 30, .inl g_2)), (n4, .inl (cI, 30, .inl g_5)), (n5, .inl (cI, 30, .inl (upd g5 (Int32.toNatClampNeg 0) 0))), (n6, .inl (cI, 30, .inl g6))] H := hP
    replace hD : va_D A [(a0, .inr (4, [.ref aF, .int 0, .int 0, .ref n3, .ref n4, .ref n5, .ref n6, .ref n7, .ref n8, .ref n9])), (n3, .inl (cI, 30, .inl g_2)), (n4, .inl (cI, 30, .inl g_5)), (n5, .inl (cI, 30, .inl (upd g5 (Int32.toNatClampNeg 0) 0))), (n6, .inl (cI, 30, .inl g6))] := hD
    generalize eg_6 : upd g5 (Int32.toNatClampNeg 0) 0 = g_6 at hP hD
    clear eg_6
    refine lv_aload_n hx hb dX4_note_54 rfl (lv_at hl 0 rfl) ?_
    refine va_get (D := D) (ci := 4) (v := .ref n6) (C := RX4) (T := TX4) (N := 10) hx hb hts iw_X4_note_X4 hown hK hP 0 rfl rfl 6 (by decide) (hts (.fieldLink RX4 21 "SoldHouse$Night" "untoldAt" "[I") (List.mem_of_getElem? (i := 6) rfl)) (fun _ h9 => h9) rfl dX4_note_55 ?_
    refine lv_aload_n hx hb dX4_note_58 rfl (lv_at hl 0 rfl) ?_
    refine va_get (D := D) (ci := 4) (v := .int 0) (C := RX4) (T := TX4) (N := 10) hx hb hts iw_X4_note_X4 hown hK hP 0 rfl rfl 1 (by decide) (hts (.fieldLink RX4 37 "SoldHouse$Night" "count" "I") (List.mem_of_getElem? (i := 1) rfl)) (fun _ h9 => h9) rfl dX4_note_59 ?_
    refine lv_iconst (v := (-1)) hx hb dX4_note_62 (by decide) ?_
    refine va_iast hx hb hK hP hD hS 4 0 rfl rfl (show vp_in 0 30 from (by decide : ¬ ((0 : Int32) < 0 ∨ 30 ≤ Int32.toNatClampNeg 0))) dX4_note_63 (fun H locs hP hD hS => ?_)
    replace hP : va_P D classes [(a0, .inr (4, [.ref aF, .int 0, .int 0, .ref n3, .ref n4, .ref n5, .ref n6, .ref n7, .ref n8, .ref n9])), (n3, .inl (cI, 30, .inl g_2)), (n4, .inl (cI, 30, .inl g_5)), (n5, .inl (cI, 30, .inl g_6)), (n6, .inl (cI, 30, .inl (upd g6 (Int32.toNatClampNeg 0) (-1))))] H := hP
    replace hD : va_D A [(a0, .inr (4, [.ref aF, .int 0, .int 0, .ref n3, .ref n4, .ref n5, .ref n6, .ref n7, .ref n8, .ref n9])), (n3, .inl (cI, 30, .inl g_2)), (n4, .inl (cI, 30, .inl g_5)), (n5, .inl (cI, 30, .inl g_6)), (n6, .inl (cI, 30, .inl (upd g6 (Int32.toNatClampNeg 0) (-1))))] := hD
    generalize eg_7 : upd g6 (Int32.toNatClampNeg 0) (-1) = g_7 at hP hD
    clear eg_7
    refine lv_aload_n hx hb dX4_note_64 rfl (lv_at hl 0 rfl) ?_
    refine lv_dup hx hb dX4_note_65 rfl ?_
    refine va_get (D := D) (ci := 4) (v := .int 0) (C := RX4) (T := TX4) (N := 10) hx hb hts iw_X4_note_X4 hown hK hP 0 rfl rfl 1 (by decide) (hts (.fieldLink RX4 37 "SoldHouse$Night" "count" "I") (List.mem_of_getElem? (i := 1) rfl)) (fun _ h9 => h9) rfl dX4_note_66 ?_
    refine lv_iconst (v := 1) hx hb dX4_note_69 (by decide) ?_
    refine lv_iadd hx hb dX4_note_70 ?_
    refine lv_topi (fun y_8 ey_8 => ?_)
    obtain rfl : y_8 = 1 := ey_8.trans (by decide)
    refine va_put (D := D) (ci := 4) (v := .int 1) (ty := tyX4 1) (C := RX4) (T := TX4) (N := 10) hx hb hts iw_X4_note_X4 tyX4 tyX4_ok nmX4 hown hK hP hD hS 0 rfl rfl 1 (by decide) (hts (.fieldLink RX4 37 "SoldHouse$Night" "count" "I") (List.mem_of_getElem? (i := 1) rfl)) (fun _ h9 => h9) rfl (by decide +kernel) rfl rfl (Nat.le_of_ble_eq_true rfl) dX4_note_71 (fun H locs hP hD hS => ?_)
    replace hP : va_P D classes [(a0, .inr (4, [.ref aF, .int 1, .int 0, .ref n3, .ref n4, .ref n5, .ref n6, .ref n7, .ref n8, .ref n9])), (n3, .inl (cI, 30, .inl g_2)), (n4, .inl (cI, 30, .inl g_5)), (n5, .inl (cI, 30, .inl g_6)), (n6, .inl (cI, 30, .inl g_7))] H := hP
    replace hD : va_D A [(a0, .inr (4, [.ref aF, .int 1, .int 0, .ref n3, .ref n4, .ref n5, .ref n6, .ref n7, .ref n8, .ref n9])), (n3, .inl (cI, 30, .inl g_2)), (n4, .inl (cI, 30, .inl g_5)), (n5, .inl (cI, 30, .inl g_6)), (n6, .inl (cI, 30, .inl g_7))] := hD
    refine lv_aload_n hx hb dX4_note_74 rfl (lv_at hl 0 rfl) ?_
    refine va_get (D := D) (ci := 4) (v := .int 1) (C := RX4) (T := TX4) (N := 10) hx hb hts iw_X4_note_X4 hown hK hP 0 rfl rfl 1 (by decide) (hts (.fieldLink RX4 37 "SoldHouse$Night" "count" "I") (List.mem_of_getElem? (i := 1) rfl)) (fun _ h9 => h9) rfl dX4_note_75 ?_
    refine lv_iconst (v := 1) hx hb dX4_note_78 (by decide) ?_
    refine lv_isub hx hb dX4_note_79 ?_
    refine lv_topi (fun y_9 ey_9 => ?_)
    obtain rfl : y_9 = 0 := ey_9.trans (by decide)
    refine W.widen (k := 0) (n := 0) (Nat.le_of_ble_eq_true rfl) (Nat.le_of_ble_eq_true rfl) ?_
    exact W.iret (v := 0) hx hb hr (fun t ht hW => ⟨⟨0, (), rfl, rfl, trivial⟩, hS.F ht⟩) hS.2.2 dX4_note_80
  · refine lv_iload_n hx hb dX4_note_33 rfl (lv_at hl 2 rfl) ?_
    refine lv_goto (tgt := 40) hx hb dX4_note_34 (by decide) ?_
    refine va_iast hx hb hK hP hD hS 2 0 rfl rfl (show vp_in 0 30 from (by decide : ¬ ((0 : Int32) < 0 ∨ 30 ≤ Int32.toNatClampNeg 0))) dX4_note_40 (fun H locs hP hD hS => ?_)
    replace hP : va_P D classes [(a0, .inr (4, [.ref aF, .int 0, .int 0, .ref n3, .ref n4, .ref n5, .ref n6, .ref n7, .ref n8, .ref n9])), (n3, .inl (cI, 30, .inl g_2)), (n4, .inl (cI, 30, .inl (upd g4 (Int32.toNatClampNeg 0) y))), (n5, .inl (cI, 30, .inl g5)), (n6, .inl (cI, 30, .inl g6))] H := hP
    replace hD : va_D A [(a0, .inr (4, [.ref aF, .int 0, .int 0, .ref n3, .ref n4, .ref n5, .ref n6, .ref n7, .ref n8, .ref n9])), (n3, .inl (cI, 30, .inl g_2)), (n4, .inl (cI, 30, .inl (upd g4 (Int32.toNatClampNeg 0) y))), (n5, .inl (cI, 30, .inl g5)), (n6, .inl (cI, 30, .inl g6))] := hD
    generalize eg_10 : upd g4 (Int32.toNatClampNeg 0) y = g_10 at hP hD
    clear eg_10
    refine lv_aload_n hx hb dX4_note_41 rfl (lv_at hl 0 rfl) ?_
    refine va_get (D := D) (ci := 4) (v := .ref n5) (C := RX4) (T := TX4) (N := 10) hx hb hts iw_X4_note_X4 hown hK hP 0 rfl rfl 5 (by decide) (hts (.fieldLink RX4 18 "SoldHouse$Night" "toldAt" "[I") (List.mem_of_getElem? (i := 4) rfl)) (fun _ h9 => h9) rfl dX4_note_42 ?_
    refine lv_aload_n hx hb dX4_note_45 rfl (lv_at hl 0 rfl) ?_
    refine va_get (D := D) (ci := 4) (v := .int 0) (C := RX4) (T := TX4) (N := 10) hx hb hts iw_X4_note_X4 hown hK hP 0 rfl rfl 1 (by decide) (hts (.fieldLink RX4 37 "SoldHouse$Night" "count" "I") (List.mem_of_getElem? (i := 1) rfl)) (fun _ h9 => h9) rfl dX4_note_46 ?_
    refine lv_aload_n hx hb dX4_note_49 rfl (lv_at hl 0 rfl) ?_
    refine va_get (D := D) (ci := 4) (v := .int 0) (C := RX4) (T := TX4) (N := 10) hx hb hts iw_X4_note_X4 hown hK hP 0 rfl rfl 2 (by decide) (hts (.fieldLink RX4 41 "SoldHouse$Night" "time" "I") (List.mem_of_getElem? (i := 5) rfl)) (fun _ h9 => h9) rfl dX4_note_50 ?_
    refine va_iast hx hb hK hP hD hS 3 0 rfl rfl (show vp_in 0 30 from (by decide : ¬ ((0 : Int32) < 0 ∨ 30 ≤ Int32.toNatClampNeg 0))) dX4_note_53 (fun H locs hP hD hS => ?_)
    replace hP : va_P D classes [(a0, .inr (4, [.ref aF, .int 0, .int 0, .ref n3, .ref n4, .ref n5, .ref n6, .ref n7, .ref n8, .ref n9])), (n3, .inl (cI, 30, .inl g_2)), (n4, .inl (cI, 30, .inl g_10)), (n5, .inl (cI, 30, .inl (upd g5 (Int32.toNatClampNeg 0) 0))), (n6, .inl (cI, 30, .inl g6))] H := hP
    replace hD : va_D A [(a0, .inr (4, [.ref aF, .int 0, .int 0, .ref n3, .ref n4, .ref n5, .ref n6, .ref n7, .ref n8, .ref n9])), (n3, .inl (cI, 30, .inl g_2)), (n4, .inl (cI, 30, .inl g_10)), (n5, .inl (cI, 30, .inl (upd g5 (Int32.toNatClampNeg 0) 0))), (n6, .inl (cI, 30, .inl g6))] := hD
    generalize eg_11 : upd g5 (Int32.toNatClampNeg 0) 0 = g_11 at hP hD
    clear eg_11
    refine lv_aload_n hx hb dX4_note_54 rfl (lv_at hl 0 rfl) ?_
    refine va_get (D := D) (ci := 4) (v := .ref n6) (C := RX4) (T := TX4) (N := 10) hx hb hts iw_X4_note_X4 hown hK hP 0 rfl rfl 6 (by decide) (hts (.fieldLink RX4 21 "SoldHouse$Night" "untoldAt" "[I") (List.mem_of_getElem? (i := 6) rfl)) (fun _ h9 => h9) rfl dX4_note_55 ?_
    refine lv_aload_n hx hb dX4_note_58 rfl (lv_at hl 0 rfl) ?_
    refine va_get (D := D) (ci := 4) (v := .int 0) (C := RX4) (T := TX4) (N := 10) hx hb hts iw_X4_note_X4 hown hK hP 0 rfl rfl 1 (by decide) (hts (.fieldLink RX4 37 "SoldHouse$Night" "count" "I") (List.mem_of_getElem? (i := 1) rfl)) (fun _ h9 => h9) rfl dX4_note_59 ?_
    refine lv_iconst (v := (-1)) hx hb dX4_note_62 (by decide) ?_
    refine va_iast hx hb hK hP hD hS 4 0 rfl rfl (show vp_in 0 30 from (by decide : ¬ ((0 : Int32) < 0 ∨ 30 ≤ Int32.toNatClampNeg 0))) dX4_note_63 (fun H locs hP hD hS => ?_)
    replace hP : va_P D classes [(a0, .inr (4, [.ref aF, .int 0, .int 0, .ref n3, .ref n4, .ref n5, .ref n6, .ref n7, .ref n8, .ref n9])), (n3, .inl (cI, 30, .inl g_2)), (n4, .inl (cI, 30, .inl g_10)), (n5, .inl (cI, 30, .inl g_11)), (n6, .inl (cI, 30, .inl (upd g6 (Int32.toNatClampNeg 0) (-1))))] H := hP
    replace hD : va_D A [(a0, .inr (4, [.ref aF, .int 0, .int 0, .ref n3, .ref n4, .ref n5, .ref n6, .ref n7, .ref n8, .ref n9])), (n3, .inl (cI, 30, .inl g_2)), (n4, .inl (cI, 30, .inl g_10)), (n5, .inl (cI, 30, .inl g_11)), (n6, .inl (cI, 30, .inl (upd g6 (Int32.toNatClampNeg 0) (-1))))] := hD
    generalize eg_12 : upd g6 (Int32.toNatClampNeg 0) (-1) = g_12 at hP hD
    clear eg_12
    refine lv_aload_n hx hb dX4_note_64 rfl (lv_at hl 0 rfl) ?_
    refine lv_dup hx hb dX4_note_65 rfl ?_
    refine va_get (D := D) (ci := 4) (v := .int 0) (C := RX4) (T := TX4) (N := 10) hx hb hts iw_X4_note_X4 hown hK hP 0 rfl rfl 1 (by decide) (hts (.fieldLink RX4 37 "SoldHouse$Night" "count" "I") (List.mem_of_getElem? (i := 1) rfl)) (fun _ h9 => h9) rfl dX4_note_66 ?_
    refine lv_iconst (v := 1) hx hb dX4_note_69 (by decide) ?_
    refine lv_iadd hx hb dX4_note_70 ?_
    refine lv_topi (fun y_13 ey_13 => ?_)
    obtain rfl : y_13 = 1 := ey_13.trans (by decide)
    refine va_put (D := D) (ci := 4) (v := .int 1) (ty := tyX4 1) (C := RX4) (T := TX4) (N := 10) hx hb hts iw_X4_note_X4 tyX4 tyX4_ok nmX4 hown hK hP hD hS 0 rfl rfl 1 (by decide) (hts (.fieldLink RX4 37 "SoldHouse$Night" "count" "I") (List.mem_of_getElem? (i := 1) rfl)) (fun _ h9 => h9) rfl (by decide +kernel) rfl rfl (Nat.le_of_ble_eq_true rfl) dX4_note_71 (fun H locs hP hD hS => ?_)
    replace hP : va_P D classes [(a0, .inr (4, [.ref aF, .int 1, .int 0, .ref n3, .ref n4, .ref n5, .ref n6, .ref n7, .ref n8, .ref n9])), (n3, .inl (cI, 30, .inl g_2)), (n4, .inl (cI, 30, .inl g_10)), (n5, .inl (cI, 30, .inl g_11)), (n6, .inl (cI, 30, .inl g_12))] H := hP
    replace hD : va_D A [(a0, .inr (4, [.ref aF, .int 1, .int 0, .ref n3, .ref n4, .ref n5, .ref n6, .ref n7, .ref n8, .ref n9])), (n3, .inl (cI, 30, .inl g_2)), (n4, .inl (cI, 30, .inl g_10)), (n5, .inl (cI, 30, .inl g_11)), (n6, .inl (cI, 30, .inl g_12))] := hD
    refine lv_aload_n hx hb dX4_note_74 rfl (lv_at hl 0 rfl) ?_
    refine va_get (D := D) (ci := 4) (v := .int 1) (C := RX4) (T := TX4) (N := 10) hx hb hts iw_X4_note_X4 hown hK hP 0 rfl rfl 1 (by decide) (hts (.fieldLink RX4 37 "SoldHouse$Night" "count" "I") (List.mem_of_getElem? (i := 1) rfl)) (fun _ h9 => h9) rfl dX4_note_75 ?_
    refine lv_iconst (v := 1) hx hb dX4_note_78 (by decide) ?_
    refine lv_isub hx hb dX4_note_79 ?_
    refine lv_topi (fun y_14 ey_14 => ?_)
    obtain rfl : y_14 = 0 := ey_14.trans (by decide)
    refine W.widen (k := 0) (n := 0) (Nat.le_of_ble_eq_true rfl) (Nat.le_of_ble_eq_true rfl) ?_
    exact W.iret (v := 0) hx hb hr (fun t ht hW => ⟨⟨0, (), rfl, rfl, trivial⟩, hS.F ht⟩) hS.2.2 dX4_note_80
set_option maxHeartbeats 4000000 in
set_option maxRecDepth 100000 in
theorem c_heard (l : Launch) (D : va_G) (cI : ClassId) (cB : ClassId) (cL : ClassId) (cZ : ClassId) (a0 : Nat) (aP : Nat) (aD : Nat) (aT : Nat) (aR : Nat) (aF : Nat) (aU : Nat) (aH : Nat) (aM : Nat) (aW : Nat) (aN : Nat) (fx : Nat) (fr : Nat) (fe : Nat) (pz : Nat → Nat) (su : Nat) (aF1 : Nat) (n3 : Nat) (n4 : Nat) (n5 : Nat) (n6 : Nat) (n7 : Nat) (n8 : Nat) (n9 : Nat) (g3 : Nat → Int32) (g4 : Nat → Int32) (g5 : Nat → Int32) (g6 : Nat → Int32) (x : Int32) (y : Int32) (z : Int32) (sz : Nat) : Met l yX11_heard wsX11_heard ({ frames := 1, cells := 0, slots := 0, locals := 23 }) (xp D [(cI, .int), (cB, .byte), (cL, .long), (cZ, .boolean)] [(a0, .inr (11, [.ref aP, .ref aD, .ref aT, .ref aR, .ref aF, .ref aU, .ref aH, .ref aM, .ref aW, .ref aN])), (aF, .inr (0, [.ref aP, .ref fx, .ref fr, .ref fe, .int 0])), (aP, .inr (5, PF pz su)), (aN, .inr (4, [.ref aF1, .int 0, .int 0, .ref n3, .ref n4, .ref n5, .ref n6, .ref n7, .ref n8, .ref n9])), (n3, .inl (cI, 30, .inl g3)), (n4, .inl (cI, 30, .inl g4)), (n5, .inl (cI, 30, .inl g5)), (n6, .inl (cI, 30, .inl g6))] sz [] [.ref a0, .int x, .int y, .int z]) (va_Qi (fun (r : Int32) (_ : Unit) => r = sp_heard x y) (fun (_ : Unit) (_ : State) => True) (va_A [(a0, .inr (11, [.ref aP, .ref aD, .ref aT, .ref aR, .ref aF, .ref aU, .ref aH, .ref aM, .ref aW, .ref aN])), (aF, .inr (0, [.ref aP, .ref fx, .ref fr, .ref fe, .int 0])), (aP, .inr (5, PF pz su)), (aN, .inr (4, [.ref aF1, .int 0, .int 0, .ref n3, .ref n4, .ref n5, .ref n6, .ref n7, .ref n8, .ref n9])), (n3, .inl (cI, 30, .inl g3)), (n4, .inl (cI, 30, .inl g4)), (n5, .inl (cI, 30, .inl g5)), (n6, .inl (cI, 30, .inl g6))] sz)) 0 0 (va_A [(a0, .inr (11, [.ref aP, .ref aD, .ref aT, .ref aR, .ref aF, .ref aU, .ref aH, .ref aM, .ref aW, .ref aN])), (aF, .inr (0, [.ref aP, .ref fx, .ref fr, .ref fe, .int 0])), (aP, .inr (5, PF pz su)), (aN, .inr (4, [.ref aF1, .int 0, .int 0, .ref n3, .ref n4, .ref n5, .ref n6, .ref n7, .ref n8, .ref n9])), (n3, .inl (cI, 30, .inl g3)), (n4, .inl (cI, 30, .inl g4)), (n5, .inl (cI, 30, .inl g5)), (n6, .inl (cI, 30, .inl g6))] sz) := by
  refine Met.ofW (cc := cX11_heard) (maxL := 4) (ret := (some .int)) (by decide) rfl ?_
  intro p e s m args below meth c s₁ B hml hv
  obtain ⟨rfl, hsz, hP, hK, hD0, hNw⟩ := hv
  have hx := B.exec
  have hb := B.bytes
  have hr := B.returns
  have hts := atoms_spec (ws := wsX11_heard) B.pre
  have hown : s.vm.findClass RX11 = some m.cls := findClass_of_methodNamed B.named
  have hlocks := B.notSynchronized
  subst hsz
  have hD := hD0.self (sz := s.heap.size)
  clear hD0
  generalize hAe : va_A [(a0, .inr (11, [.ref aP, .ref aD, .ref aT, .ref aR, .ref aF, .ref aU, .ref aH, .ref aM, .ref aW, .ref aN])), (aF, .inr (0, [.ref aP, .ref fx, .ref fr, .ref fe, .int 0])), (aP, .inr (5, PF pz su)), (aN, .inr (4, [.ref aF1, .int 0, .int 0, .ref n3, .ref n4, .ref n5, .ref n6, .ref n7, .ref n8, .ref n9])), (n3, .inl (cI, 30, .inl g3)), (n4, .inl (cI, 30, .inl g4)), (n5, .inl (cI, 30, .inl g5)), (n6, .inl (cI, 30, .inl g6))] s.heap.size = A at hD ⊢
  have hA : ∀ q : Nat, s.heap.size ≤ q → A q := fun q h => by rw [← hAe]; exact Or.inr h
  have hS : va_S A s.heap s.heap [] := va_S.rf
  clear hAe
  obtain ⟨H, hH⟩ : ∃ H : Heap, H = s.heap := ⟨_, rfl⟩
  obtain ⟨locs, hlocs⟩ : ∃ L : List Loc, L = [] := ⟨_, rfl⟩
  replace hP : va_P D classes [(a0, .inr (11, [.ref aP, .ref aD, .ref aT, .ref aR, .ref aF, .ref aU, .ref aH, .ref aM, .ref aW, .ref aN])), (aF, .inr (0, [.ref aP, .ref fx, .ref fr, .ref fe, .int 0])), (aP, .inr (5, PF pz su)), (aN, .inr (4, [.ref aF1, .int 0, .int 0, .ref n3, .ref n4, .ref n5, .ref n6, .ref n7, .ref n8, .ref n9])), (n3, .inl (cI, 30, .inl g3)), (n4, .inl (cI, 30, .inl g4)), (n5, .inl (cI, 30, .inl g5)), (n6, .inl (cI, 30, .inl g6))] H := by rw [hH]; exact hP
  replace hS : va_S A s.heap H locs := by rw [hH, hlocs]; exact hS
  rw [← hH, ← hlocs]
  clear hlocs hH
  have hl := lv_entry ([.ref a0, .int x, .int y, .int z]) (n := 4) (Nat.le_of_ble_eq_true rfl)
  rw [lg_entry_eq]
  generalize (lg_sl ([.ref a0, .int x, .int y, .int z]) ++ List.replicate (4 - (lg_sl ([.ref a0, .int x, .int y, .int z])).length) Slot.unset).toArray = ls at hl ⊢
  replace hl : lv_has ls 4 [(0, .ref a0), (1, .int x), (2, .int y), (3, .int z)] := hl
  refine lv_iload_n hx hb dX11_heard_0 rfl (lv_at hl 2 rfl) ?_
  refine lv_if_lt (tgt := 17) hx hb dX11_heard_1 (by decide) (fun c_1 => ?_) (fun c_1 => ?_)
  · refine lv_iconst (v := (-1)) hx hb dX11_heard_17 (by decide) ?_
    refine W.widen (k := 0) (n := 0) (Nat.le_of_ble_eq_true rfl) (Nat.le_of_ble_eq_true rfl) ?_
    exact W.iret (v := (-1)) hx hb hr (fun t ht hW => ⟨⟨(-1), (), rfl, (sp_heard_lt c_1).symm, trivial⟩, hS.F ht⟩) hS.2.2 dX11_heard_18
  · refine lv_iload_n hx hb dX11_heard_4 rfl (lv_at hl 2 rfl) ?_
    refine lv_bipush (v := 9) hx hb dX11_heard_5 (by decide) ?_
    refine lv_icmp_gt (tgt := 17) hx hb dX11_heard_7 (by decide) (fun c_2 => ?_) (fun c_2 => ?_)
    · refine lv_iconst (v := (-1)) hx hb dX11_heard_17 (by decide) ?_
      refine W.widen (k := 0) (n := 0) (Nat.le_of_ble_eq_true rfl) (Nat.le_of_ble_eq_true rfl) ?_
      exact W.iret (v := (-1)) hx hb hr (fun t ht hW => ⟨⟨(-1), (), rfl, (sp_heard_gt c_1 c_2).symm, trivial⟩, hS.F ht⟩) hS.2.2 dX11_heard_18
    · refine lv_iload_n hx hb dX11_heard_10 rfl (lv_at hl 1 rfl) ?_
      have hPc := hP.sub (ws' := []) [] rfl
      refine vp_callSi (va_runS (As := [.int x]) (rest := []) ⟨hx, hb, hml, hown, hts⟩ (c_isMinute l D cI cB cL cZ x) (va_cwS 1 hts gX11_heard_X11_isMinute rfl rfl rfl (by decide +kernel) ⟨Nat.le_of_ble_eq_true rfl, Nat.le_of_ble_eq_true rfl⟩) ⟨xr_blind, fun U hU hW => xr_mk hU hW hPc hK⟩ rfl rfl hl.1 rfl (lv_room (Nat.le_of_ble_eq_true rfl)) dX11_heard_11 ⟨Nat.le_of_ble_eq_true rfl, Nat.le_of_ble_eq_true rfl⟩).run (fun r_3 hr_3 => ?_)
      clear hPc
      rcases hr_3 with ⟨rfl, hr_3_0, hr_3_1⟩ | ⟨rfl, hr_3_0⟩ | ⟨rfl, hr_3_0, hr_3_1⟩
      · refine lv_if_ne (tgt := 19) hx hb dX11_heard_14 (by decide) (fun _ => ?_) (fun c_4 => absurd c_4 (by decide))
        refine lv_aload_n hx hb dX11_heard_19 rfl (lv_at hl 0 rfl) ?_
        refine va_get (D := D) (ci := 11) (v := .ref aN) (C := RX11) (T := TX11) (N := 10) hx hb hts iw_X11_heard_X11 hown hK hP 0 rfl rfl 9 (by decide) (hts (.fieldLink RX11 79 "SoldHouse" "night" "LSoldHouse$Night;") (List.mem_of_getElem? (i := 1) rfl)) (fun _ h9 => h9) rfl dX11_heard_20 ?_
        refine lv_iload_n hx hb dX11_heard_23 rfl (lv_at hl 1 rfl) ?_
        refine lv_aload_n hx hb dX11_heard_24 rfl (lv_at hl 0 rfl) ?_
        refine va_get (D := D) (ci := 11) (v := .ref aF) (C := RX11) (T := TX11) (N := 10) hx hb hts iw_X11_heard_X11 hown hK hP 0 rfl rfl 4 (by decide) (hts (.fieldLink RX11 40 "SoldHouse" "floor" "LSoldHouse$Floor;") (List.mem_of_getElem? (i := 2) rfl)) (fun _ h9 => h9) rfl dX11_heard_25 ?_
        refine lv_iload_n hx hb dX11_heard_28 rfl (lv_at hl 2 rfl) ?_
        have hPc := hP.sub (ws' := [(aF, .inr (0, [.ref aP, .ref fx, .ref fr, .ref fe, .int 0])), (aP, .inr (5, PF pz su))]) [1, 2] rfl
        refine vp_callSi (va_runV (As := [.int y]) (rest := [.int x, .ref aN]) ⟨hx, hb, hml, hown, hts⟩ (c_creakingRooms l D cI cB cL cZ aF aP fx fr fe pz su y) (cwV 1 hts gX11_heard_X0_creakingRooms rfl rfl rfl (by decide +kernel) ⟨Nat.le_of_ble_eq_true rfl, Nat.le_of_ble_eq_true rfl⟩) ⟨xr_blind, va_recv hK hPc (ci := 0) (q0 := 0) rfl rfl, fun U hU hW => xr_mk hU hW hPc hK⟩ rfl rfl hl.1 rfl (lv_room (Nat.le_of_ble_eq_true rfl)) dX11_heard_29 ⟨Nat.le_of_ble_eq_true rfl, Nat.le_of_ble_eq_true rfl⟩).run (fun r_5 hr_5 => ?_)
        clear hPc
        subst hr_5
        refine lv_iload_n hx hb dX11_heard_32 rfl (lv_at hl 3 rfl) ?_
        have hPc := hP.sub (ws' := [(aN, .inr (4, [.ref aF1, .int 0, .int 0, .ref n3, .ref n4, .ref n5, .ref n6, .ref n7, .ref n8, .ref n9])), (n3, .inl (cI, 30, .inl g3)), (n4, .inl (cI, 30, .inl g4)), (n5, .inl (cI, 30, .inl g5)), (n6, .inl (cI, 30, .inl g6))]) [3, 4, 5, 6, 7] rfl
        have hDc := hD.sub (ws' := [(aN, .inr (4, [.ref aF1, .int 0, .int 0, .ref n3, .ref n4, .ref n5, .ref n6, .ref n7, .ref n8, .ref n9])), (n3, .inl (cI, 30, .inl g3)), (n4, .inl (cI, 30, .inl g4)), (n5, .inl (cI, 30, .inl g5)), (n6, .inl (cI, 30, .inl g6))]) [3, 4, 5, 6, 7] (by decide) rfl
        have hFc := va_free (wc := [(aN, .inr (4, [.ref aF1, .int 0, .int 0, .ref n3, .ref n4, .ref n5, .ref n6, .ref n7, .ref n8, .ref n9])), (n3, .inl (cI, 30, .inl g3)), (n4, .inl (cI, 30, .inl g4)), (n5, .inl (cI, 30, .inl g5)), (n6, .inl (cI, 30, .inl g6))]) hD hS hA [3, 4, 5, 6, 7] rfl
        refine va_calli (va_runV (As := [.int x, .int 0, .int z]) (rest := []) ⟨hx, hb, hml, hown, hts⟩ (c_note l D cI cB cL cZ aN aF1 n3 n4 n5 n6 n7 n8 n9 g3 g4 g5 g6 x 0 z H.size) (cwV 3 hts gX11_heard_X4_note rfl rfl rfl (by decide +kernel) ⟨Nat.le_of_ble_eq_true rfl, Nat.le_of_ble_eq_true rfl⟩) ⟨xp_blind, va_recv hK hPc (ci := 4) (q0 := 0) rfl rfl, fun U hU hW => xp_mk hU hW hPc hK hDc xNw_nil⟩ rfl rfl hl.1 rfl (lv_room (Nat.le_of_ble_eq_true rfl)) dX11_heard_33 ⟨Nat.le_of_ble_eq_true rfl, Nat.le_of_ble_eq_true rfl⟩) hS (fun q _ h => hFc q h) hFc (fun r_6 u9 t9 H1 locs ht9 hvm9 hr_6 hB9 hz9 hk9 hS => ?_)
        clear hB9 hz9 hPc hDc
        obtain ⟨hP, hD⟩ := va_join (wr := [(a0, .inr (11, [.ref aP, .ref aD, .ref aT, .ref aR, .ref aF, .ref aU, .ref aH, .ref aM, .ref aW, .ref aN])), (aF, .inr (0, [.ref aP, .ref fx, .ref fr, .ref fe, .int 0])), (aP, .inr (5, PF pz su))]) (w1 := []) hP hD [3, 4, 5, 6, 7] [0, 1, 2] rfl rfl (by decide) (by decide) hk9 hFc (fun k q h => by simp at h) ⟨fun i j p q h => by simp at h, fun k q h => by simp at h⟩
        clear hk9 hFc ht9 hvm9
        generalize H1 = H at hP hS ⊢
        replace hP : va_P D classes [(a0, .inr (11, [.ref aP, .ref aD, .ref aT, .ref aR, .ref aF, .ref aU, .ref aH, .ref aM, .ref aW, .ref aN])), (aF, .inr (0, [.ref aP, .ref fx, .ref fr, .ref fe, .int 0])), (aP, .inr (5, PF pz su))] H := hP
        replace hD : va_D A [(a0, .inr (11, [.ref aP, .ref aD, .ref aT, .ref aR, .ref aF, .ref aU, .ref aH, .ref aM, .ref aW, .ref aN])), (aF, .inr (0, [.ref aP, .ref fx, .ref fr, .ref fe, .int 0])), (aP, .inr (5, PF pz su))] := hD
        subst hr_6
        refine W.widen (k := 0) (n := 0) (Nat.le_of_ble_eq_true rfl) (Nat.le_of_ble_eq_true rfl) ?_
        exact W.iret (v := 0) hx hb hr (fun t ht hW => ⟨⟨0, (), rfl, ((sp_heard_in c_1 c_2).trans (sp_rng_in hr_3_0 (Int32.not_lt.mpr (zz_ltle hr_3_1 (by decide))))).symm, trivial⟩, hS.F ht⟩) hS.2.2 dX11_heard_36
      · refine lv_if_ne (tgt := 19) hx hb dX11_heard_14 (by decide) (fun c_7 => absurd (by decide) c_7) (fun _ => ?_)
        refine lv_iconst (v := (-1)) hx hb dX11_heard_17 (by decide) ?_
        refine W.widen (k := 0) (n := 0) (Nat.le_of_ble_eq_true rfl) (Nat.le_of_ble_eq_true rfl) ?_
        exact W.iret (v := (-1)) hx hb hr (fun t ht hW => ⟨⟨(-1), (), rfl, ((sp_heard_in c_1 c_2).trans (sp_rng_lt hr_3_0)).symm, trivial⟩, hS.F ht⟩) hS.2.2 dX11_heard_18
      · refine lv_if_ne (tgt := 19) hx hb dX11_heard_14 (by decide) (fun c_8 => absurd (by decide) c_8) (fun _ => ?_)
        refine lv_iconst (v := (-1)) hx hb dX11_heard_17 (by decide) ?_
        refine W.widen (k := 0) (n := 0) (Nat.le_of_ble_eq_true rfl) (Nat.le_of_ble_eq_true rfl) ?_
        exact W.iret (v := (-1)) hx hb hr (fun t ht hW => ⟨⟨(-1), (), rfl, ((sp_heard_in c_1 c_2).trans (sp_rng_gt hr_3_0 (zz_ngt hr_3_1 (by decide)))).symm, trivial⟩, hS.F ht⟩) hS.2.2 dX11_heard_18
set_option maxHeartbeats 4000000 in
set_option maxRecDepth 100000 in
theorem c_fill8 (l : Launch) (D : va_G) (cI : ClassId) (cB : ClassId) (cL : ClassId) (cZ : ClassId) (a0 : Nat) (fb : Nat → Int32) (x : Int32) (sz : Nat) : Met l yJ7_fill_53178 wsJ7_fill_53178 ({ frames := 0, cells := 0, slots := 0, locals := 0 }) (xp D [(cI, .int), (cB, .byte), (cL, .long), (cZ, .boolean)] [(a0, .inl (cI, 8, .inl fb))] sz [] [.ref a0, .int x]) (va_Qv (fun _ : Unit => True) (fun (_ : Unit) (t : State) => ∃ (g : Nat → Int32), xB D (va_A [(a0, .inl (cI, 8, .inl fb))] sz) [(a0, .inl (cI, 8, .inl g))] t) (va_A [(a0, .inl (cI, 8, .inl fb))] sz)) 0 0 (va_A [(a0, .inl (cI, 8, .inl fb))] sz) := by
  refine Met.ofW (cc := cJ7_fill_53178) (maxL := 4) (ret := none) (by decide) rfl ?_
  intro p e s m args below meth c s₁ B hml hv
  obtain ⟨rfl, hsz, hP, hK, hD0, hNw⟩ := hv
  have hx := B.exec
  have hb := B.bytes
  have hr := B.returns
  have hts := atoms_spec (ws := wsJ7_fill_53178) B.pre
  have hown : s.vm.findClass RJ7 = some m.cls := findClass_of_methodNamed B.named
  have hlocks := B.notSynchronized
  subst hsz
  have hD := hD0.self (sz := s.heap.size)
  clear hD0
  generalize hAe : va_A [(a0, .inl (cI, 8, .inl fb))] s.heap.size = A at hD ⊢
  have hA : ∀ q : Nat, s.heap.size ≤ q → A q := fun q h => by rw [← hAe]; exact Or.inr h
  have hS : va_S A s.heap s.heap [] := va_S.rf
  clear hAe
  obtain ⟨H, hH⟩ : ∃ H : Heap, H = s.heap := ⟨_, rfl⟩
  obtain ⟨locs, hlocs⟩ : ∃ L : List Loc, L = [] := ⟨_, rfl⟩
  replace hP : va_P D classes [(a0, .inl (cI, 8, .inl fb))] H := by rw [hH]; exact hP
  replace hS : va_S A s.heap H locs := by rw [hH, hlocs]; exact hS
  rw [← hH, ← hlocs]
  clear hlocs hH
  have hl := lv_entry ([.ref a0, .int x]) (n := 4) (Nat.le_of_ble_eq_true rfl)
  rw [lg_entry_eq]
  generalize (lg_sl ([.ref a0, .int x]) ++ List.replicate (4 - (lg_sl ([.ref a0, .int x])).length) Slot.unset).toArray = ls at hl ⊢
  replace hl : lv_has ls 4 [(0, .ref a0), (1, .int x)] := hl
  refine lv_iconst (v := 0) hx hb dJ7_fill_53178_0 (by decide) ?_
  refine lv_istore_n (lv' := [(2, .int 0), (0, .ref a0), (1, .int x)]) hx hb dJ7_fill_53178_1 rfl hl (by decide) rfl (fun ls hl => ?_)
  refine lv_aload_n hx hb dJ7_fill_53178_2 rfl (lv_at hl 1 rfl) ?_
  refine va_alen (v := 8) hx hb hK hP 0 0 rfl rfl rfl dJ7_fill_53178_3 ?_
  refine lv_istore_n (lv' := [(3, .int 8), (2, .int 0), (0, .ref a0), (1, .int x)]) hx hb dJ7_fill_53178_4 rfl hl (by decide) rfl (fun ls hl => ?_)
  obtain ⟨i5, hi5⟩ : ∃ i : Nat, i = 0 := ⟨0, rfl⟩
  replace hl : lv_has ls 4 [(3, .int 8), (2, .int (nI i5)), (0, .ref a0), (1, .int x)] := by
    rw [hi5]; exact hl
  obtain ⟨g_1, eg_1⟩ : ∃ g : Nat → Int32, g = fb := ⟨_, rfl⟩
  rw [← eg_1] at hP hD
  clear eg_1
  have hle_i5 : i5 ≤ 8 := by omega
  obtain ⟨n5, hnn5⟩ : ∃ n : Nat, 8 + 1 ≤ i5 + n := ⟨8 + 1, by omega⟩
  clear hi5
  induction n5 generalizing i5 H locs ls g_1 with
  | zero => omega
  | succ n5 ih5 =>
    refine lv_iload_n hx hb dJ7_fill_53178_5 rfl (lv_at hl 1 rfl) ?_
    refine lv_iload_n hx hb dJ7_fill_53178_6 rfl (lv_at hl 0 rfl) ?_
    refine lv_icmp_ge (tgt := 20) hx hb dJ7_fill_53178_7 (by decide) (fun c_2 => ?_) (fun c_2 => ?_)
    · have hP9 := hP.sub (ws' := [(a0, .inl (cI, 8, .inl g_1))]) [0] rfl
      have hD9 := hD.sub (ws' := [(a0, .inl (cI, 8, .inl g_1))]) [0] (by decide) rfl
      refine W.widen (k := 0) (n := 0) (Nat.le_of_ble_eq_true rfl) (Nat.le_of_ble_eq_true rfl) ?_
      exact W.vret hx hb hr (fun t ht hW => ⟨⟨(), rfl, trivial, ⟨g_1, by rw [ht]; exact hP9, hD9⟩⟩, hS.F ht⟩) hS.2.2 dJ7_fill_53178_20
    · have hlt_i5 : i5 < 8 := by
        rcases Nat.lt_or_ge i5 8 with q | q
        · exact q
        · exact absurd (nI_le q (by omega)) c_2
      refine lv_aload_n hx hb dJ7_fill_53178_10 rfl (lv_at hl 2 rfl) ?_
      refine lv_iload_n hx hb dJ7_fill_53178_11 rfl (lv_at hl 1 rfl) ?_
      refine lv_iload_n hx hb dJ7_fill_53178_12 rfl (lv_at hl 3 rfl) ?_
      refine va_iast hx hb hK hP hD hS 0 0 rfl rfl (vp_in_nI (by omega) (by decide)) dJ7_fill_53178_13 (fun H locs hP hD hS => ?_)
      replace hP : va_P D classes [(a0, .inl (cI, 8, .inl (upd g_1 (Int32.toNatClampNeg (nI i5)) x)))] H := hP
      replace hD : va_D A [(a0, .inl (cI, 8, .inl (upd g_1 (Int32.toNatClampNeg (nI i5)) x)))] := hD
      generalize eg_3 : upd g_1 (Int32.toNatClampNeg (nI i5)) x = g_3 at hP hD
      clear eg_3
      refine lv_iinc (v := nI (i5 + 1)) (lv' := [(2, .int (nI (i5 + 1))), (3, .int 8), (0, .ref a0), (1, .int x)]) hx hb dJ7_fill_53178_14 hl (k := 1) rfl (nI_1 i5) (by decide) rfl (fun ls hl => ?_)
      refine lv_goto (tgt := 5) hx hb dJ7_fill_53178_17 (by decide) ?_
      replace hl : lv_has ls 4 [(3, .int 8), (2, .int (nI (i5 + 1))), (0, .ref a0), (1, .int x)] := lv_sub hl [1, 0, 2, 3] rfl
      apply ih5 (i5 := (i5 + 1)) (H := H) (locs := locs) (ls := ls) (g_1 := (g_3)) <;> first | assumption | omega
set_option maxHeartbeats 4000000 in
set_option maxRecDepth 100000 in
theorem c_fill64 (l : Launch) (D : va_G) (cI : ClassId) (cB : ClassId) (cL : ClassId) (cZ : ClassId) (a0 : Nat) (fb : Nat → Int32) (x : Int32) (sz : Nat) : Met l yJ7_fill_53178 wsJ7_fill_53178 ({ frames := 0, cells := 0, slots := 0, locals := 0 }) (xp D [(cI, .int), (cB, .byte), (cL, .long), (cZ, .boolean)] [(a0, .inl (cI, 64, .inl fb))] sz [] [.ref a0, .int x]) (va_Qv (fun _ : Unit => True) (fun (_ : Unit) (t : State) => ∃ (g : Nat → Int32), xB D (va_A [(a0, .inl (cI, 64, .inl fb))] sz) [(a0, .inl (cI, 64, .inl g))] t) (va_A [(a0, .inl (cI, 64, .inl fb))] sz)) 0 0 (va_A [(a0, .inl (cI, 64, .inl fb))] sz) := by
  refine Met.ofW (cc := cJ7_fill_53178) (maxL := 4) (ret := none) (by decide) rfl ?_
  intro p e s m args below meth c s₁ B hml hv
  obtain ⟨rfl, hsz, hP, hK, hD0, hNw⟩ := hv
  have hx := B.exec
  have hb := B.bytes
  have hr := B.returns
  have hts := atoms_spec (ws := wsJ7_fill_53178) B.pre
  have hown : s.vm.findClass RJ7 = some m.cls := findClass_of_methodNamed B.named
  have hlocks := B.notSynchronized
  subst hsz
  have hD := hD0.self (sz := s.heap.size)
  clear hD0
  generalize hAe : va_A [(a0, .inl (cI, 64, .inl fb))] s.heap.size = A at hD ⊢
  have hA : ∀ q : Nat, s.heap.size ≤ q → A q := fun q h => by rw [← hAe]; exact Or.inr h
  have hS : va_S A s.heap s.heap [] := va_S.rf
  clear hAe
  obtain ⟨H, hH⟩ : ∃ H : Heap, H = s.heap := ⟨_, rfl⟩
  obtain ⟨locs, hlocs⟩ : ∃ L : List Loc, L = [] := ⟨_, rfl⟩
  replace hP : va_P D classes [(a0, .inl (cI, 64, .inl fb))] H := by rw [hH]; exact hP
  replace hS : va_S A s.heap H locs := by rw [hH, hlocs]; exact hS
  rw [← hH, ← hlocs]
  clear hlocs hH
  have hl := lv_entry ([.ref a0, .int x]) (n := 4) (Nat.le_of_ble_eq_true rfl)
  rw [lg_entry_eq]
  generalize (lg_sl ([.ref a0, .int x]) ++ List.replicate (4 - (lg_sl ([.ref a0, .int x])).length) Slot.unset).toArray = ls at hl ⊢
  replace hl : lv_has ls 4 [(0, .ref a0), (1, .int x)] := hl
  refine lv_iconst (v := 0) hx hb dJ7_fill_53178_0 (by decide) ?_
  refine lv_istore_n (lv' := [(2, .int 0), (0, .ref a0), (1, .int x)]) hx hb dJ7_fill_53178_1 rfl hl (by decide) rfl (fun ls hl => ?_)
  refine lv_aload_n hx hb dJ7_fill_53178_2 rfl (lv_at hl 1 rfl) ?_
  refine va_alen (v := 64) hx hb hK hP 0 0 rfl rfl rfl dJ7_fill_53178_3 ?_
  refine lv_istore_n (lv' := [(3, .int 64), (2, .int 0), (0, .ref a0), (1, .int x)]) hx hb dJ7_fill_53178_4 rfl hl (by decide) rfl (fun ls hl => ?_)
  obtain ⟨i5, hi5⟩ : ∃ i : Nat, i = 0 := ⟨0, rfl⟩
  replace hl : lv_has ls 4 [(3, .int 64), (2, .int (nI i5)), (0, .ref a0), (1, .int x)] := by
    rw [hi5]; exact hl
  obtain ⟨g_1, eg_1⟩ : ∃ g : Nat → Int32, g = fb := ⟨_, rfl⟩
  rw [← eg_1] at hP hD
  clear eg_1
  have hle_i5 : i5 ≤ 64 := by omega
  obtain ⟨n5, hnn5⟩ : ∃ n : Nat, 64 + 1 ≤ i5 + n := ⟨64 + 1, by omega⟩
  clear hi5
  induction n5 generalizing i5 H locs ls g_1 with
  | zero => omega
  | succ n5 ih5 =>
    refine lv_iload_n hx hb dJ7_fill_53178_5 rfl (lv_at hl 1 rfl) ?_
    refine lv_iload_n hx hb dJ7_fill_53178_6 rfl (lv_at hl 0 rfl) ?_
    refine lv_icmp_ge (tgt := 20) hx hb dJ7_fill_53178_7 (by decide) (fun c_2 => ?_) (fun c_2 => ?_)
    · have hP9 := hP.sub (ws' := [(a0, .inl (cI, 64, .inl g_1))]) [0] rfl
      have hD9 := hD.sub (ws' := [(a0, .inl (cI, 64, .inl g_1))]) [0] (by decide) rfl
      refine W.widen (k := 0) (n := 0) (Nat.le_of_ble_eq_true rfl) (Nat.le_of_ble_eq_true rfl) ?_
      exact W.vret hx hb hr (fun t ht hW => ⟨⟨(), rfl, trivial, ⟨g_1, by rw [ht]; exact hP9, hD9⟩⟩, hS.F ht⟩) hS.2.2 dJ7_fill_53178_20
    · have hlt_i5 : i5 < 64 := by
        rcases Nat.lt_or_ge i5 64 with q | q
        · exact q
        · exact absurd (nI_le q (by omega)) c_2
      refine lv_aload_n hx hb dJ7_fill_53178_10 rfl (lv_at hl 2 rfl) ?_
      refine lv_iload_n hx hb dJ7_fill_53178_11 rfl (lv_at hl 1 rfl) ?_
      refine lv_iload_n hx hb dJ7_fill_53178_12 rfl (lv_at hl 3 rfl) ?_
      refine va_iast hx hb hK hP hD hS 0 0 rfl rfl (vp_in_nI (by omega) (by decide)) dJ7_fill_53178_13 (fun H locs hP hD hS => ?_)
      replace hP : va_P D classes [(a0, .inl (cI, 64, .inl (upd g_1 (Int32.toNatClampNeg (nI i5)) x)))] H := hP
      replace hD : va_D A [(a0, .inl (cI, 64, .inl (upd g_1 (Int32.toNatClampNeg (nI i5)) x)))] := hD
      generalize eg_3 : upd g_1 (Int32.toNatClampNeg (nI i5)) x = g_3 at hP hD
      clear eg_3
      refine lv_iinc (v := nI (i5 + 1)) (lv' := [(2, .int (nI (i5 + 1))), (3, .int 64), (0, .ref a0), (1, .int x)]) hx hb dJ7_fill_53178_14 hl (k := 1) rfl (nI_1 i5) (by decide) rfl (fun ls hl => ?_)
      refine lv_goto (tgt := 5) hx hb dJ7_fill_53178_17 (by decide) ?_
      replace hl : lv_has ls 4 [(3, .int 64), (2, .int (nI (i5 + 1))), (0, .ref a0), (1, .int x)] := lv_sub hl [1, 0, 2, 3] rfl
      apply ih5 (i5 := (i5 + 1)) (H := H) (locs := locs) (ls := ls) (g_1 := (g_3)) <;> first | assumption | omega
set_option maxHeartbeats 4000000 in
set_option maxRecDepth 100000 in
theorem c_openRooms (l : Launch) (D : va_G) (cI : ClassId) (cB : ClassId) (cL : ClassId) (cZ : ClassId) (a0 : Nat) (aF : Nat) (n3 : Nat) (n4 : Nat) (n5 : Nat) (n6 : Nat) (n7 : Nat) (n8 : Nat) (n9 : Nat) (fb : Nat → Int32) (x : Int32) (sz : Nat) : Met l yX4_openRooms wsX4_openRooms ({ frames := 1, cells := 0, slots := 0, locals := 23 }) (xp D [(cI, .int), (cB, .byte), (cL, .long), (cZ, .boolean)] [(a0, .inr (4, [.ref aF, .int 0, .int 0, .ref n3, .ref n4, .ref n5, .ref n6, .ref n7, .ref n8, .ref n9])), (n7, .inl (cI, 8, .inl fb))] sz [] [.ref a0, .int x]) (va_Qv (fun _ : Unit => True) (fun (_ : Unit) (t : State) => ∃ (g : Nat → Int32), xB D (va_A [(a0, .inr (4, [.ref aF, .int 0, .int 0, .ref n3, .ref n4, .ref n5, .ref n6, .ref n7, .ref n8, .ref n9])), (n7, .inl (cI, 8, .inl fb))] sz) [(a0, .inr (4, [.ref aF, .int 0, .int 0, .ref n3, .ref n4, .ref n5, .ref n6, .ref n7, .ref n8, .ref n9])), (n7, .inl (cI, 8, .inl g))] t) (va_A [(a0, .inr (4, [.ref aF, .int 0, .int 0, .ref n3, .ref n4, .ref n5, .ref n6, .ref n7, .ref n8, .ref n9])), (n7, .inl (cI, 8, .inl fb))] sz)) 0 0 (va_A [(a0, .inr (4, [.ref aF, .int 0, .int 0, .ref n3, .ref n4, .ref n5, .ref n6, .ref n7, .ref n8, .ref n9])), (n7, .inl (cI, 8, .inl fb))] sz) := by
  refine Met.ofW (cc := cX4_openRooms) (maxL := 4) (ret := none) (by decide) rfl ?_
  intro p e s m args below meth c s₁ B hml hv
  obtain ⟨rfl, hsz, hP, hK, hD0, hNw⟩ := hv
  have hx := B.exec
  have hb := B.bytes
  have hr := B.returns
  have hts := atoms_spec (ws := wsX4_openRooms) B.pre
  have hown : s.vm.findClass RX4 = some m.cls := findClass_of_methodNamed B.named
  have hlocks := B.notSynchronized
  subst hsz
  have hD := hD0.self (sz := s.heap.size)
  clear hD0
  generalize hAe : va_A [(a0, .inr (4, [.ref aF, .int 0, .int 0, .ref n3, .ref n4, .ref n5, .ref n6, .ref n7, .ref n8, .ref n9])), (n7, .inl (cI, 8, .inl fb))] s.heap.size = A at hD ⊢
  have hA : ∀ q : Nat, s.heap.size ≤ q → A q := fun q h => by rw [← hAe]; exact Or.inr h
  have hS : va_S A s.heap s.heap [] := va_S.rf
  clear hAe
  obtain ⟨H, hH⟩ : ∃ H : Heap, H = s.heap := ⟨_, rfl⟩
  obtain ⟨locs, hlocs⟩ : ∃ L : List Loc, L = [] := ⟨_, rfl⟩
  replace hP : va_P D classes [(a0, .inr (4, [.ref aF, .int 0, .int 0, .ref n3, .ref n4, .ref n5, .ref n6, .ref n7, .ref n8, .ref n9])), (n7, .inl (cI, 8, .inl fb))] H := by rw [hH]; exact hP
  replace hS : va_S A s.heap H locs := by rw [hH, hlocs]; exact hS
  rw [← hH, ← hlocs]
  clear hlocs hH
  have hl := lv_entry ([.ref a0, .int x]) (n := 4) (Nat.le_of_ble_eq_true rfl)
  rw [lg_entry_eq]
  generalize (lg_sl ([.ref a0, .int x]) ++ List.replicate (4 - (lg_sl ([.ref a0, .int x])).length) Slot.unset).toArray = ls at hl ⊢
  replace hl : lv_has ls 4 [(0, .ref a0), (1, .int x)] := hl
  refine lv_aload_n hx hb dX4_openRooms_0 rfl (lv_at hl 0 rfl) ?_
  refine va_get (D := D) (ci := 4) (v := .ref n7) (C := RX4) (T := TX4) (N := 10) hx hb hts iw_X4_openRooms_X4 hown hK hP 0 rfl rfl 7 (by decide) (hts (.fieldLink RX4 24 "SoldHouse$Night" "open" "[I") (List.mem_of_getElem? (i := 1) rfl)) (fun _ h9 => h9) rfl dX4_openRooms_1 ?_
  refine lv_iconst (v := (-1)) hx hb dX4_openRooms_4 (by decide) ?_
  have hPc := hP.sub (ws' := [(n7, .inl (cI, 8, .inl fb))]) [1] rfl
  have hDc := hD.sub (ws' := [(n7, .inl (cI, 8, .inl fb))]) [1] (by decide) rfl
  have hFc := va_free (wc := [(n7, .inl (cI, 8, .inl fb))]) hD hS hA [1] rfl
  refine va_callv (va_runS (As := [.ref n7, .int (-1)]) (rest := []) ⟨hx, hb, hml, hown, hts⟩ (c_fill8 l D cI cB cL cZ n7 fb ((-1)) H.size) (va_cwS 2 hts gX4_openRooms_J7_fill_53178 rfl rfl rfl (by decide +kernel) ⟨Nat.le_of_ble_eq_true rfl, Nat.le_of_ble_eq_true rfl⟩) ⟨xp_blind, fun U hU hW => xp_mk hU hW hPc hK hDc xNw_nil⟩ rfl rfl hl.1 rfl (lv_room (Nat.le_of_ble_eq_true rfl)) dX4_openRooms_5 ⟨Nat.le_of_ble_eq_true rfl, Nat.le_of_ble_eq_true rfl⟩) hS (fun q _ h => hFc q h) hFc (fun u9 t9 H1 locs ht9 hvm9 hr_1 hB9 hz9 hk9 hS => ?_)
  obtain ⟨g__2, hP1, hD1⟩ := hB9
  rw [ht9] at hP1
  obtain ⟨hP, hD⟩ := va_join (wr := [(a0, .inr (4, [.ref aF, .int 0, .int 0, .ref n3, .ref n4, .ref n5, .ref n6, .ref n7, .ref n8, .ref n9]))]) (w1 := [(n7, .inl (cI, 8, .inl g__2))]) hP hD [1] [0] rfl rfl (by decide) (by decide) hk9 hFc hP1 hD1
  clear hz9 hPc hDc hP1 hD1
  clear hk9 hFc ht9 hvm9
  generalize H1 = H at hP hS ⊢
  replace hP : va_P D classes [(a0, .inr (4, [.ref aF, .int 0, .int 0, .ref n3, .ref n4, .ref n5, .ref n6, .ref n7, .ref n8, .ref n9])), (n7, .inl (cI, 8, .inl g__2))] H := hP
  replace hD : va_D A [(a0, .inr (4, [.ref aF, .int 0, .int 0, .ref n3, .ref n4, .ref n5, .ref n6, .ref n7, .ref n8, .ref n9])), (n7, .inl (cI, 8, .inl g__2))] := hD
  refine lv_iconst (v := 0) hx hb dX4_openRooms_8 (by decide) ?_
  refine lv_istore_n (lv' := [(2, .int 0), (0, .ref a0), (1, .int x)]) hx hb dX4_openRooms_9 rfl hl (by decide) rfl (fun ls hl => ?_)
  refine lv_iload_n hx hb dX4_openRooms_10 rfl (lv_at hl 0 rfl) ?_
  refine lv_aload_n hx hb dX4_openRooms_11 rfl (lv_at hl 1 rfl) ?_
  refine va_get (D := D) (ci := 4) (v := .int 0) (C := RX4) (T := TX4) (N := 10) hx hb hts iw_X4_openRooms_X4 hown hK hP 0 rfl rfl 1 (by decide) (hts (.fieldLink RX4 37 "SoldHouse$Night" "count" "I") (List.mem_of_getElem? (i := 2) rfl)) (fun _ h9 => h9) rfl dX4_openRooms_12 ?_
  refine lv_icmp_ge (tgt := 84) hx hb dX4_openRooms_15 (by decide) (fun _ => ?_) (fun c_3 => absurd (by decide) c_3)
  have hP9 := hP.sub (ws' := [(a0, .inr (4, [.ref aF, .int 0, .int 0, .ref n3, .ref n4, .ref n5, .ref n6, .ref n7, .ref n8, .ref n9])), (n7, .inl (cI, 8, .inl g__2))]) [0, 1] rfl
  have hD9 := hD.sub (ws' := [(a0, .inr (4, [.ref aF, .int 0, .int 0, .ref n3, .ref n4, .ref n5, .ref n6, .ref n7, .ref n8, .ref n9])), (n7, .inl (cI, 8, .inl g__2))]) [0, 1] (by decide) rfl
  refine W.widen (k := 0) (n := 0) (Nat.le_of_ble_eq_true rfl) (Nat.le_of_ble_eq_true rfl) ?_
  exact W.vret hx hb hr (fun t ht hW => ⟨⟨(), rfl, trivial, ⟨g__2, by rw [ht]; exact hP9, hD9⟩⟩, hS.F ht⟩) hS.2.2 dX4_openRooms_84
set_option maxHeartbeats 4000000 in
set_option maxRecDepth 100000 in
theorem c_countWalks (l : Launch) (D : va_G) (cI : ClassId) (cB : ClassId) (cL : ClassId) (cZ : ClassId) (a0 : Nat) (aF : Nat) (aP : Nat) (n3 : Nat) (n4 : Nat) (n5 : Nat) (n6 : Nat) (n7 : Nat) (n8 : Nat) (n9 : Nat) (fb : Nat → Int32) (fx : Nat) (fr : Nat) (fe : Nat) (pz : Nat → Nat) (su : Nat) (x : Int32) (sz : Nat) : Met l yX4_countWalks wsX4_countWalks ({ frames := 2, cells := 0, slots := 0, locals := 46 }) (xp D [(cI, .int), (cB, .byte), (cL, .long), (cZ, .boolean)] [(a0, .inr (4, [.ref aF, .int 0, .int 0, .ref n3, .ref n4, .ref n5, .ref n6, .ref n7, .ref n8, .ref n9])), (n7, .inl (cI, 8, .inl fb)), (aF, .inr (0, [.ref aP, .ref fx, .ref fr, .ref fe, .int 0])), (aP, .inr (5, PF pz su))] sz [] [.ref a0, .int x]) (va_Qi (fun (r : Int32) (_ : Unit) => r = 0) (fun (_ : Unit) (_ : State) => True) (va_A [(a0, .inr (4, [.ref aF, .int 0, .int 0, .ref n3, .ref n4, .ref n5, .ref n6, .ref n7, .ref n8, .ref n9])), (n7, .inl (cI, 8, .inl fb)), (aF, .inr (0, [.ref aP, .ref fx, .ref fr, .ref fe, .int 0])), (aP, .inr (5, PF pz su))] sz)) 0 0 (va_A [(a0, .inr (4, [.ref aF, .int 0, .int 0, .ref n3, .ref n4, .ref n5, .ref n6, .ref n7, .ref n8, .ref n9])), (n7, .inl (cI, 8, .inl fb)), (aF, .inr (0, [.ref aP, .ref fx, .ref fr, .ref fe, .int 0])), (aP, .inr (5, PF pz su))] sz) := by
  refine Met.ofW (cc := cX4_countWalks) (maxL := 4) (ret := (some .int)) (by decide) rfl ?_
  intro p e s m args below meth c s₁ B hml hv
  obtain ⟨rfl, hsz, hP, hK, hD0, hNw⟩ := hv
  have hx := B.exec
  have hb := B.bytes
  have hr := B.returns
  have hts := atoms_spec (ws := wsX4_countWalks) B.pre
  have hown : s.vm.findClass RX4 = some m.cls := findClass_of_methodNamed B.named
  have hlocks := B.notSynchronized
  subst hsz
  have hD := hD0.self (sz := s.heap.size)
  clear hD0
  generalize hAe : va_A [(a0, .inr (4, [.ref aF, .int 0, .int 0, .ref n3, .ref n4, .ref n5, .ref n6, .ref n7, .ref n8, .ref n9])), (n7, .inl (cI, 8, .inl fb)), (aF, .inr (0, [.ref aP, .ref fx, .ref fr, .ref fe, .int 0])), (aP, .inr (5, PF pz su))] s.heap.size = A at hD ⊢
  have hA : ∀ q : Nat, s.heap.size ≤ q → A q := fun q h => by rw [← hAe]; exact Or.inr h
  have hS : va_S A s.heap s.heap [] := va_S.rf
  clear hAe
  obtain ⟨H, hH⟩ : ∃ H : Heap, H = s.heap := ⟨_, rfl⟩
  obtain ⟨locs, hlocs⟩ : ∃ L : List Loc, L = [] := ⟨_, rfl⟩
  replace hP : va_P D classes [(a0, .inr (4, [.ref aF, .int 0, .int 0, .ref n3, .ref n4, .ref n5, .ref n6, .ref n7, .ref n8, .ref n9])), (n7, .inl (cI, 8, .inl fb)), (aF, .inr (0, [.ref aP, .ref fx, .ref fr, .ref fe, .int 0])), (aP, .inr (5, PF pz su))] H := by rw [hH]; exact hP
  replace hS : va_S A s.heap H locs := by rw [hH, hlocs]; exact hS
  rw [← hH, ← hlocs]
  clear hlocs hH
  have hl := lv_entry ([.ref a0, .int x]) (n := 4) (Nat.le_of_ble_eq_true rfl)
  rw [lg_entry_eq]
  generalize (lg_sl ([.ref a0, .int x]) ++ List.replicate (4 - (lg_sl ([.ref a0, .int x])).length) Slot.unset).toArray = ls at hl ⊢
  replace hl : lv_has ls 4 [(0, .ref a0), (1, .int x)] := hl
  refine lv_aload_n hx hb dX4_countWalks_0 rfl (lv_at hl 0 rfl) ?_
  refine lv_iload_n hx hb dX4_countWalks_1 rfl (lv_at hl 1 rfl) ?_
  have hPc := hP.sub (ws' := [(a0, .inr (4, [.ref aF, .int 0, .int 0, .ref n3, .ref n4, .ref n5, .ref n6, .ref n7, .ref n8, .ref n9])), (n7, .inl (cI, 8, .inl fb))]) [0, 1] rfl
  have hDc := hD.sub (ws' := [(a0, .inr (4, [.ref aF, .int 0, .int 0, .ref n3, .ref n4, .ref n5, .ref n6, .ref n7, .ref n8, .ref n9])), (n7, .inl (cI, 8, .inl fb))]) [0, 1] (by decide) rfl
  have hFc := va_free (wc := [(a0, .inr (4, [.ref aF, .int 0, .int 0, .ref n3, .ref n4, .ref n5, .ref n6, .ref n7, .ref n8, .ref n9])), (n7, .inl (cI, 8, .inl fb))]) hD hS hA [0, 1] rfl
  refine va_callv (va_runV (As := [.int x]) (rest := []) ⟨hx, hb, hml, hown, hts⟩ (c_openRooms l D cI cB cL cZ a0 aF n3 n4 n5 n6 n7 n8 n9 fb x H.size) (cwV 1 hts gX4_countWalks_X4_openRooms rfl rfl rfl (by decide +kernel) ⟨Nat.le_of_ble_eq_true rfl, Nat.le_of_ble_eq_true rfl⟩) ⟨xp_blind, va_recv hK hPc (ci := 4) (q0 := 0) rfl rfl, fun U hU hW => xp_mk hU hW hPc hK hDc xNw_nil⟩ rfl rfl hl.1 rfl (lv_room (Nat.le_of_ble_eq_true rfl)) dX4_countWalks_2 ⟨Nat.le_of_ble_eq_true rfl, Nat.le_of_ble_eq_true rfl⟩) hS (fun q _ h => hFc q h) hFc (fun u9 t9 H1 locs ht9 hvm9 hr_1 hB9 hz9 hk9 hS => ?_)
  obtain ⟨g__2, hP1, hD1⟩ := hB9
  rw [ht9] at hP1
  obtain ⟨hP, hD⟩ := va_join (wr := [(aF, .inr (0, [.ref aP, .ref fx, .ref fr, .ref fe, .int 0])), (aP, .inr (5, PF pz su))]) (w1 := [(a0, .inr (4, [.ref aF, .int 0, .int 0, .ref n3, .ref n4, .ref n5, .ref n6, .ref n7, .ref n8, .ref n9])), (n7, .inl (cI, 8, .inl g__2))]) hP hD [0, 1] [2, 3] rfl rfl (by decide) (by decide) hk9 hFc hP1 hD1
  clear hz9 hPc hDc hP1 hD1
  clear hk9 hFc ht9 hvm9
  generalize H1 = H at hP hS ⊢
  replace hP : va_P D classes [(aF, .inr (0, [.ref aP, .ref fx, .ref fr, .ref fe, .int 0])), (aP, .inr (5, PF pz su)), (a0, .inr (4, [.ref aF, .int 0, .int 0, .ref n3, .ref n4, .ref n5, .ref n6, .ref n7, .ref n8, .ref n9])), (n7, .inl (cI, 8, .inl g__2))] H := hP
  replace hD : va_D A [(aF, .inr (0, [.ref aP, .ref fx, .ref fr, .ref fe, .int 0])), (aP, .inr (5, PF pz su)), (a0, .inr (4, [.ref aF, .int 0, .int 0, .ref n3, .ref n4, .ref n5, .ref n6, .ref n7, .ref n8, .ref n9])), (n7, .inl (cI, 8, .inl g__2))] := hD
  refine lv_iconst (v := 0) hx hb dX4_countWalks_5 (by decide) ?_
  refine lv_istore_n (lv' := [(2, .int 0), (0, .ref a0), (1, .int x)]) hx hb dX4_countWalks_6 rfl hl (by decide) rfl (fun ls hl => ?_)
  refine lv_iload_n hx hb dX4_countWalks_7 rfl (lv_at hl 0 rfl) ?_
  refine lv_bipush (v := 8) hx hb dX4_countWalks_8 (by decide) ?_
  refine lv_icmp_ge (tgt := 71) hx hb dX4_countWalks_10 (by decide) (fun c_3 => absurd c_3 (by decide)) (fun _ => ?_)
  refine lv_iconst (v := 0) hx hb dX4_countWalks_13 (by decide) ?_
  refine lv_istore_n (lv' := [(3, .int 0), (2, .int 0), (0, .ref a0), (1, .int x)]) hx hb dX4_countWalks_14 rfl hl (by decide) rfl (fun ls hl => ?_)
  refine lv_iload_n hx hb dX4_countWalks_15 rfl (lv_at hl 0 rfl) ?_
  refine lv_aload_n hx hb dX4_countWalks_16 rfl (lv_at hl 2 rfl) ?_
  refine va_get (D := D) (ci := 4) (v := .ref aF) (C := RX4) (T := TX4) (N := 10) hx hb hts iw_X4_countWalks_X4 hown hK hP 2 rfl rfl 0 (by decide) (hts (.fieldLink RX4 33 "SoldHouse$Night" "floor" "LSoldHouse$Floor;") (List.mem_of_getElem? (i := 1) rfl)) (fun _ h9 => h9) rfl dX4_countWalks_17 ?_
  refine va_get (D := D) (ci := 0) (v := .ref aP) (C := RX0) (T := TX0) (N := 5) hx hb hts iw_X4_countWalks_X0 hown hK hP 0 rfl rfl 0 (by decide) (hts (.fieldLink RX4 49 "SoldHouse$Floor" "plan" "LSoldHouse$Plan;") (List.mem_of_getElem? (i := 2) rfl)) (fun _ h9 => h9) rfl dX4_countWalks_20 ?_
  refine va_get (D := D) (ci := 5) (v := .int 0) (C := RX5) (T := TX5) (N := 16) hx hb hts iw_X4_countWalks_X5 hown hK hP 1 rfl rfl 0 (by decide) (hts (.fieldLink RX4 55 "SoldHouse$Plan" "rooms" "I") (List.mem_of_getElem? (i := 3) rfl)) (fun _ h9 => h9) rfl dX4_countWalks_23 ?_
  refine lv_icmp_ge (tgt := 65) hx hb dX4_countWalks_26 (by decide) (fun _ => ?_) (fun c_4 => absurd (by decide) c_4)
  refine lv_iinc (v := 1) (lv' := [(2, .int 1), (3, .int 0), (0, .ref a0), (1, .int x)]) hx hb dX4_countWalks_65 hl (k := 1) rfl (by decide) (by decide) rfl (fun ls hl => ?_)
  refine lv_goto (tgt := 7) hx hb dX4_countWalks_68 (by decide) ?_
  refine lv_iload_n hx hb dX4_countWalks_7 rfl (lv_at hl 0 rfl) ?_
  refine lv_bipush (v := 8) hx hb dX4_countWalks_8 (by decide) ?_
  refine lv_icmp_ge (tgt := 71) hx hb dX4_countWalks_10 (by decide) (fun c_5 => absurd c_5 (by decide)) (fun _ => ?_)
  refine lv_iconst (v := 0) hx hb dX4_countWalks_13 (by decide) ?_
  refine lv_istore_n (lv' := [(3, .int 0), (2, .int 1), (0, .ref a0), (1, .int x)]) hx hb dX4_countWalks_14 rfl hl (by decide) rfl (fun ls hl => ?_)
  refine lv_iload_n hx hb dX4_countWalks_15 rfl (lv_at hl 0 rfl) ?_
  refine lv_aload_n hx hb dX4_countWalks_16 rfl (lv_at hl 2 rfl) ?_
  refine va_get (D := D) (ci := 4) (v := .ref aF) (C := RX4) (T := TX4) (N := 10) hx hb hts iw_X4_countWalks_X4 hown hK hP 2 rfl rfl 0 (by decide) (hts (.fieldLink RX4 33 "SoldHouse$Night" "floor" "LSoldHouse$Floor;") (List.mem_of_getElem? (i := 1) rfl)) (fun _ h9 => h9) rfl dX4_countWalks_17 ?_
  refine va_get (D := D) (ci := 0) (v := .ref aP) (C := RX0) (T := TX0) (N := 5) hx hb hts iw_X4_countWalks_X0 hown hK hP 0 rfl rfl 0 (by decide) (hts (.fieldLink RX4 49 "SoldHouse$Floor" "plan" "LSoldHouse$Plan;") (List.mem_of_getElem? (i := 2) rfl)) (fun _ h9 => h9) rfl dX4_countWalks_20 ?_
  refine va_get (D := D) (ci := 5) (v := .int 0) (C := RX5) (T := TX5) (N := 16) hx hb hts iw_X4_countWalks_X5 hown hK hP 1 rfl rfl 0 (by decide) (hts (.fieldLink RX4 55 "SoldHouse$Plan" "rooms" "I") (List.mem_of_getElem? (i := 3) rfl)) (fun _ h9 => h9) rfl dX4_countWalks_23 ?_
  refine lv_icmp_ge (tgt := 65) hx hb dX4_countWalks_26 (by decide) (fun _ => ?_) (fun c_6 => absurd (by decide) c_6)
  refine lv_iinc (v := 2) (lv' := [(2, .int 2), (3, .int 0), (0, .ref a0), (1, .int x)]) hx hb dX4_countWalks_65 hl (k := 1) rfl (by decide) (by decide) rfl (fun ls hl => ?_)
  refine lv_goto (tgt := 7) hx hb dX4_countWalks_68 (by decide) ?_
  refine lv_iload_n hx hb dX4_countWalks_7 rfl (lv_at hl 0 rfl) ?_
  refine lv_bipush (v := 8) hx hb dX4_countWalks_8 (by decide) ?_
  refine lv_icmp_ge (tgt := 71) hx hb dX4_countWalks_10 (by decide) (fun c_7 => absurd c_7 (by decide)) (fun _ => ?_)
  refine lv_iconst (v := 0) hx hb dX4_countWalks_13 (by decide) ?_
  refine lv_istore_n (lv' := [(3, .int 0), (2, .int 2), (0, .ref a0), (1, .int x)]) hx hb dX4_countWalks_14 rfl hl (by decide) rfl (fun ls hl => ?_)
  refine lv_iload_n hx hb dX4_countWalks_15 rfl (lv_at hl 0 rfl) ?_
  refine lv_aload_n hx hb dX4_countWalks_16 rfl (lv_at hl 2 rfl) ?_
  refine va_get (D := D) (ci := 4) (v := .ref aF) (C := RX4) (T := TX4) (N := 10) hx hb hts iw_X4_countWalks_X4 hown hK hP 2 rfl rfl 0 (by decide) (hts (.fieldLink RX4 33 "SoldHouse$Night" "floor" "LSoldHouse$Floor;") (List.mem_of_getElem? (i := 1) rfl)) (fun _ h9 => h9) rfl dX4_countWalks_17 ?_
  refine va_get (D := D) (ci := 0) (v := .ref aP) (C := RX0) (T := TX0) (N := 5) hx hb hts iw_X4_countWalks_X0 hown hK hP 0 rfl rfl 0 (by decide) (hts (.fieldLink RX4 49 "SoldHouse$Floor" "plan" "LSoldHouse$Plan;") (List.mem_of_getElem? (i := 2) rfl)) (fun _ h9 => h9) rfl dX4_countWalks_20 ?_
  refine va_get (D := D) (ci := 5) (v := .int 0) (C := RX5) (T := TX5) (N := 16) hx hb hts iw_X4_countWalks_X5 hown hK hP 1 rfl rfl 0 (by decide) (hts (.fieldLink RX4 55 "SoldHouse$Plan" "rooms" "I") (List.mem_of_getElem? (i := 3) rfl)) (fun _ h9 => h9) rfl dX4_countWalks_23 ?_
  refine lv_icmp_ge (tgt := 65) hx hb dX4_countWalks_26 (by decide) (fun _ => ?_) (fun c_8 => absurd (by decide) c_8)
  refine lv_iinc (v := 3) (lv' := [(2, .int 3), (3, .int 0), (0, .ref a0), (1, .int x)]) hx hb dX4_countWalks_65 hl (k := 1) rfl (by decide) (by decide) rfl (fun ls hl => ?_)
  refine lv_goto (tgt := 7) hx hb dX4_countWalks_68 (by decide) ?_
  refine lv_iload_n hx hb dX4_countWalks_7 rfl (lv_at hl 0 rfl) ?_
  refine lv_bipush (v := 8) hx hb dX4_countWalks_8 (by decide) ?_
  refine lv_icmp_ge (tgt := 71) hx hb dX4_countWalks_10 (by decide) (fun c_9 => absurd c_9 (by decide)) (fun _ => ?_)
  refine lv_iconst (v := 0) hx hb dX4_countWalks_13 (by decide) ?_
  refine lv_istore_n (lv' := [(3, .int 0), (2, .int 3), (0, .ref a0), (1, .int x)]) hx hb dX4_countWalks_14 rfl hl (by decide) rfl (fun ls hl => ?_)
  refine lv_iload_n hx hb dX4_countWalks_15 rfl (lv_at hl 0 rfl) ?_
  refine lv_aload_n hx hb dX4_countWalks_16 rfl (lv_at hl 2 rfl) ?_
  refine va_get (D := D) (ci := 4) (v := .ref aF) (C := RX4) (T := TX4) (N := 10) hx hb hts iw_X4_countWalks_X4 hown hK hP 2 rfl rfl 0 (by decide) (hts (.fieldLink RX4 33 "SoldHouse$Night" "floor" "LSoldHouse$Floor;") (List.mem_of_getElem? (i := 1) rfl)) (fun _ h9 => h9) rfl dX4_countWalks_17 ?_
  refine va_get (D := D) (ci := 0) (v := .ref aP) (C := RX0) (T := TX0) (N := 5) hx hb hts iw_X4_countWalks_X0 hown hK hP 0 rfl rfl 0 (by decide) (hts (.fieldLink RX4 49 "SoldHouse$Floor" "plan" "LSoldHouse$Plan;") (List.mem_of_getElem? (i := 2) rfl)) (fun _ h9 => h9) rfl dX4_countWalks_20 ?_
  refine va_get (D := D) (ci := 5) (v := .int 0) (C := RX5) (T := TX5) (N := 16) hx hb hts iw_X4_countWalks_X5 hown hK hP 1 rfl rfl 0 (by decide) (hts (.fieldLink RX4 55 "SoldHouse$Plan" "rooms" "I") (List.mem_of_getElem? (i := 3) rfl)) (fun _ h9 => h9) rfl dX4_countWalks_23 ?_
  refine lv_icmp_ge (tgt := 65) hx hb dX4_countWalks_26 (by decide) (fun _ => ?_) (fun c_10 => absurd (by decide) c_10)
  refine lv_iinc (v := 4) (lv' := [(2, .int 4), (3, .int 0), (0, .ref a0), (1, .int x)]) hx hb dX4_countWalks_65 hl (k := 1) rfl (by decide) (by decide) rfl (fun ls hl => ?_)
  refine lv_goto (tgt := 7) hx hb dX4_countWalks_68 (by decide) ?_
  refine lv_iload_n hx hb dX4_countWalks_7 rfl (lv_at hl 0 rfl) ?_
  refine lv_bipush (v := 8) hx hb dX4_countWalks_8 (by decide) ?_
  refine lv_icmp_ge (tgt := 71) hx hb dX4_countWalks_10 (by decide) (fun c_11 => absurd c_11 (by decide)) (fun _ => ?_)
  refine lv_iconst (v := 0) hx hb dX4_countWalks_13 (by decide) ?_
  refine lv_istore_n (lv' := [(3, .int 0), (2, .int 4), (0, .ref a0), (1, .int x)]) hx hb dX4_countWalks_14 rfl hl (by decide) rfl (fun ls hl => ?_)
  refine lv_iload_n hx hb dX4_countWalks_15 rfl (lv_at hl 0 rfl) ?_
  refine lv_aload_n hx hb dX4_countWalks_16 rfl (lv_at hl 2 rfl) ?_
  refine va_get (D := D) (ci := 4) (v := .ref aF) (C := RX4) (T := TX4) (N := 10) hx hb hts iw_X4_countWalks_X4 hown hK hP 2 rfl rfl 0 (by decide) (hts (.fieldLink RX4 33 "SoldHouse$Night" "floor" "LSoldHouse$Floor;") (List.mem_of_getElem? (i := 1) rfl)) (fun _ h9 => h9) rfl dX4_countWalks_17 ?_
  refine va_get (D := D) (ci := 0) (v := .ref aP) (C := RX0) (T := TX0) (N := 5) hx hb hts iw_X4_countWalks_X0 hown hK hP 0 rfl rfl 0 (by decide) (hts (.fieldLink RX4 49 "SoldHouse$Floor" "plan" "LSoldHouse$Plan;") (List.mem_of_getElem? (i := 2) rfl)) (fun _ h9 => h9) rfl dX4_countWalks_20 ?_
  refine va_get (D := D) (ci := 5) (v := .int 0) (C := RX5) (T := TX5) (N := 16) hx hb hts iw_X4_countWalks_X5 hown hK hP 1 rfl rfl 0 (by decide) (hts (.fieldLink RX4 55 "SoldHouse$Plan" "rooms" "I") (List.mem_of_getElem? (i := 3) rfl)) (fun _ h9 => h9) rfl dX4_countWalks_23 ?_
  refine lv_icmp_ge (tgt := 65) hx hb dX4_countWalks_26 (by decide) (fun _ => ?_) (fun c_12 => absurd (by decide) c_12)
  refine lv_iinc (v := 5) (lv' := [(2, .int 5), (3, .int 0), (0, .ref a0), (1, .int x)]) hx hb dX4_countWalks_65 hl (k := 1) rfl (by decide) (by decide) rfl (fun ls hl => ?_)
  refine lv_goto (tgt := 7) hx hb dX4_countWalks_68 (by decide) ?_
  refine lv_iload_n hx hb dX4_countWalks_7 rfl (lv_at hl 0 rfl) ?_
  refine lv_bipush (v := 8) hx hb dX4_countWalks_8 (by decide) ?_
  refine lv_icmp_ge (tgt := 71) hx hb dX4_countWalks_10 (by decide) (fun c_13 => absurd c_13 (by decide)) (fun _ => ?_)
  refine lv_iconst (v := 0) hx hb dX4_countWalks_13 (by decide) ?_
  refine lv_istore_n (lv' := [(3, .int 0), (2, .int 5), (0, .ref a0), (1, .int x)]) hx hb dX4_countWalks_14 rfl hl (by decide) rfl (fun ls hl => ?_)
  refine lv_iload_n hx hb dX4_countWalks_15 rfl (lv_at hl 0 rfl) ?_
  refine lv_aload_n hx hb dX4_countWalks_16 rfl (lv_at hl 2 rfl) ?_
  refine va_get (D := D) (ci := 4) (v := .ref aF) (C := RX4) (T := TX4) (N := 10) hx hb hts iw_X4_countWalks_X4 hown hK hP 2 rfl rfl 0 (by decide) (hts (.fieldLink RX4 33 "SoldHouse$Night" "floor" "LSoldHouse$Floor;") (List.mem_of_getElem? (i := 1) rfl)) (fun _ h9 => h9) rfl dX4_countWalks_17 ?_
  refine va_get (D := D) (ci := 0) (v := .ref aP) (C := RX0) (T := TX0) (N := 5) hx hb hts iw_X4_countWalks_X0 hown hK hP 0 rfl rfl 0 (by decide) (hts (.fieldLink RX4 49 "SoldHouse$Floor" "plan" "LSoldHouse$Plan;") (List.mem_of_getElem? (i := 2) rfl)) (fun _ h9 => h9) rfl dX4_countWalks_20 ?_
  refine va_get (D := D) (ci := 5) (v := .int 0) (C := RX5) (T := TX5) (N := 16) hx hb hts iw_X4_countWalks_X5 hown hK hP 1 rfl rfl 0 (by decide) (hts (.fieldLink RX4 55 "SoldHouse$Plan" "rooms" "I") (List.mem_of_getElem? (i := 3) rfl)) (fun _ h9 => h9) rfl dX4_countWalks_23 ?_
  refine lv_icmp_ge (tgt := 65) hx hb dX4_countWalks_26 (by decide) (fun _ => ?_) (fun c_14 => absurd (by decide) c_14)
  refine lv_iinc (v := 6) (lv' := [(2, .int 6), (3, .int 0), (0, .ref a0), (1, .int x)]) hx hb dX4_countWalks_65 hl (k := 1) rfl (by decide) (by decide) rfl (fun ls hl => ?_)
  refine lv_goto (tgt := 7) hx hb dX4_countWalks_68 (by decide) ?_
  refine lv_iload_n hx hb dX4_countWalks_7 rfl (lv_at hl 0 rfl) ?_
  refine lv_bipush (v := 8) hx hb dX4_countWalks_8 (by decide) ?_
  refine lv_icmp_ge (tgt := 71) hx hb dX4_countWalks_10 (by decide) (fun c_15 => absurd c_15 (by decide)) (fun _ => ?_)
  refine lv_iconst (v := 0) hx hb dX4_countWalks_13 (by decide) ?_
  refine lv_istore_n (lv' := [(3, .int 0), (2, .int 6), (0, .ref a0), (1, .int x)]) hx hb dX4_countWalks_14 rfl hl (by decide) rfl (fun ls hl => ?_)
  refine lv_iload_n hx hb dX4_countWalks_15 rfl (lv_at hl 0 rfl) ?_
  refine lv_aload_n hx hb dX4_countWalks_16 rfl (lv_at hl 2 rfl) ?_
  refine va_get (D := D) (ci := 4) (v := .ref aF) (C := RX4) (T := TX4) (N := 10) hx hb hts iw_X4_countWalks_X4 hown hK hP 2 rfl rfl 0 (by decide) (hts (.fieldLink RX4 33 "SoldHouse$Night" "floor" "LSoldHouse$Floor;") (List.mem_of_getElem? (i := 1) rfl)) (fun _ h9 => h9) rfl dX4_countWalks_17 ?_
  refine va_get (D := D) (ci := 0) (v := .ref aP) (C := RX0) (T := TX0) (N := 5) hx hb hts iw_X4_countWalks_X0 hown hK hP 0 rfl rfl 0 (by decide) (hts (.fieldLink RX4 49 "SoldHouse$Floor" "plan" "LSoldHouse$Plan;") (List.mem_of_getElem? (i := 2) rfl)) (fun _ h9 => h9) rfl dX4_countWalks_20 ?_
  refine va_get (D := D) (ci := 5) (v := .int 0) (C := RX5) (T := TX5) (N := 16) hx hb hts iw_X4_countWalks_X5 hown hK hP 1 rfl rfl 0 (by decide) (hts (.fieldLink RX4 55 "SoldHouse$Plan" "rooms" "I") (List.mem_of_getElem? (i := 3) rfl)) (fun _ h9 => h9) rfl dX4_countWalks_23 ?_
  refine lv_icmp_ge (tgt := 65) hx hb dX4_countWalks_26 (by decide) (fun _ => ?_) (fun c_16 => absurd (by decide) c_16)
  refine lv_iinc (v := 7) (lv' := [(2, .int 7), (3, .int 0), (0, .ref a0), (1, .int x)]) hx hb dX4_countWalks_65 hl (k := 1) rfl (by decide) (by decide) rfl (fun ls hl => ?_)
  refine lv_goto (tgt := 7) hx hb dX4_countWalks_68 (by decide) ?_
  refine lv_iload_n hx hb dX4_countWalks_7 rfl (lv_at hl 0 rfl) ?_
  refine lv_bipush (v := 8) hx hb dX4_countWalks_8 (by decide) ?_
  refine lv_icmp_ge (tgt := 71) hx hb dX4_countWalks_10 (by decide) (fun c_17 => absurd c_17 (by decide)) (fun _ => ?_)
  refine lv_iconst (v := 0) hx hb dX4_countWalks_13 (by decide) ?_
  refine lv_istore_n (lv' := [(3, .int 0), (2, .int 7), (0, .ref a0), (1, .int x)]) hx hb dX4_countWalks_14 rfl hl (by decide) rfl (fun ls hl => ?_)
  refine lv_iload_n hx hb dX4_countWalks_15 rfl (lv_at hl 0 rfl) ?_
  refine lv_aload_n hx hb dX4_countWalks_16 rfl (lv_at hl 2 rfl) ?_
  refine va_get (D := D) (ci := 4) (v := .ref aF) (C := RX4) (T := TX4) (N := 10) hx hb hts iw_X4_countWalks_X4 hown hK hP 2 rfl rfl 0 (by decide) (hts (.fieldLink RX4 33 "SoldHouse$Night" "floor" "LSoldHouse$Floor;") (List.mem_of_getElem? (i := 1) rfl)) (fun _ h9 => h9) rfl dX4_countWalks_17 ?_
  refine va_get (D := D) (ci := 0) (v := .ref aP) (C := RX0) (T := TX0) (N := 5) hx hb hts iw_X4_countWalks_X0 hown hK hP 0 rfl rfl 0 (by decide) (hts (.fieldLink RX4 49 "SoldHouse$Floor" "plan" "LSoldHouse$Plan;") (List.mem_of_getElem? (i := 2) rfl)) (fun _ h9 => h9) rfl dX4_countWalks_20 ?_
  refine va_get (D := D) (ci := 5) (v := .int 0) (C := RX5) (T := TX5) (N := 16) hx hb hts iw_X4_countWalks_X5 hown hK hP 1 rfl rfl 0 (by decide) (hts (.fieldLink RX4 55 "SoldHouse$Plan" "rooms" "I") (List.mem_of_getElem? (i := 3) rfl)) (fun _ h9 => h9) rfl dX4_countWalks_23 ?_
  refine lv_icmp_ge (tgt := 65) hx hb dX4_countWalks_26 (by decide) (fun _ => ?_) (fun c_18 => absurd (by decide) c_18)
  refine lv_iinc (v := 8) (lv' := [(2, .int 8), (3, .int 0), (0, .ref a0), (1, .int x)]) hx hb dX4_countWalks_65 hl (k := 1) rfl (by decide) (by decide) rfl (fun ls hl => ?_)
  refine lv_goto (tgt := 7) hx hb dX4_countWalks_68 (by decide) ?_
  refine lv_iload_n hx hb dX4_countWalks_7 rfl (lv_at hl 0 rfl) ?_
  refine lv_bipush (v := 8) hx hb dX4_countWalks_8 (by decide) ?_
  refine lv_icmp_ge (tgt := 71) hx hb dX4_countWalks_10 (by decide) (fun _ => ?_) (fun c_19 => absurd (by decide) c_19)
  refine lv_bipush (v := 7) hx hb dX4_countWalks_71 (by decide) ?_
  refine lv_istore_n (lv' := [(2, .int 7), (3, .int 0), (0, .ref a0), (1, .int x)]) hx hb dX4_countWalks_73 rfl hl (by decide) rfl (fun ls hl => ?_)
  refine lv_iload_n hx hb dX4_countWalks_74 rfl (lv_at hl 0 rfl) ?_
  refine lv_if_lt (tgt := 136) hx hb dX4_countWalks_75 (by decide) (fun c_20 => absurd c_20 (by decide)) (fun _ => ?_)
  refine lv_iconst (v := 0) hx hb dX4_countWalks_78 (by decide) ?_
  refine lv_istore_n (lv' := [(3, .int 0), (2, .int 7), (0, .ref a0), (1, .int x)]) hx hb dX4_countWalks_79 rfl hl (by decide) rfl (fun ls hl => ?_)
  refine lv_iload_n hx hb dX4_countWalks_80 rfl (lv_at hl 0 rfl) ?_
  refine lv_aload_n hx hb dX4_countWalks_81 rfl (lv_at hl 2 rfl) ?_
  refine va_get (D := D) (ci := 4) (v := .ref aF) (C := RX4) (T := TX4) (N := 10) hx hb hts iw_X4_countWalks_X4 hown hK hP 2 rfl rfl 0 (by decide) (hts (.fieldLink RX4 33 "SoldHouse$Night" "floor" "LSoldHouse$Floor;") (List.mem_of_getElem? (i := 1) rfl)) (fun _ h9 => h9) rfl dX4_countWalks_82 ?_
  refine va_get (D := D) (ci := 0) (v := .ref aP) (C := RX0) (T := TX0) (N := 5) hx hb hts iw_X4_countWalks_X0 hown hK hP 0 rfl rfl 0 (by decide) (hts (.fieldLink RX4 49 "SoldHouse$Floor" "plan" "LSoldHouse$Plan;") (List.mem_of_getElem? (i := 2) rfl)) (fun _ h9 => h9) rfl dX4_countWalks_85 ?_
  refine va_get (D := D) (ci := 5) (v := .int 0) (C := RX5) (T := TX5) (N := 16) hx hb hts iw_X4_countWalks_X5 hown hK hP 1 rfl rfl 0 (by decide) (hts (.fieldLink RX4 55 "SoldHouse$Plan" "rooms" "I") (List.mem_of_getElem? (i := 3) rfl)) (fun _ h9 => h9) rfl dX4_countWalks_88 ?_
  refine lv_icmp_ge (tgt := 130) hx hb dX4_countWalks_91 (by decide) (fun _ => ?_) (fun c_21 => absurd (by decide) c_21)
  refine lv_iinc (v := 6) (lv' := [(2, .int 6), (3, .int 0), (0, .ref a0), (1, .int x)]) hx hb dX4_countWalks_130 hl (k := 1) rfl (by decide) (by decide) rfl (fun ls hl => ?_)
  refine lv_goto (tgt := 74) hx hb dX4_countWalks_133 (by decide) ?_
  refine lv_iload_n hx hb dX4_countWalks_74 rfl (lv_at hl 0 rfl) ?_
  refine lv_if_lt (tgt := 136) hx hb dX4_countWalks_75 (by decide) (fun c_22 => absurd c_22 (by decide)) (fun _ => ?_)
  refine lv_iconst (v := 0) hx hb dX4_countWalks_78 (by decide) ?_
  refine lv_istore_n (lv' := [(3, .int 0), (2, .int 6), (0, .ref a0), (1, .int x)]) hx hb dX4_countWalks_79 rfl hl (by decide) rfl (fun ls hl => ?_)
  refine lv_iload_n hx hb dX4_countWalks_80 rfl (lv_at hl 0 rfl) ?_
  refine lv_aload_n hx hb dX4_countWalks_81 rfl (lv_at hl 2 rfl) ?_
  refine va_get (D := D) (ci := 4) (v := .ref aF) (C := RX4) (T := TX4) (N := 10) hx hb hts iw_X4_countWalks_X4 hown hK hP 2 rfl rfl 0 (by decide) (hts (.fieldLink RX4 33 "SoldHouse$Night" "floor" "LSoldHouse$Floor;") (List.mem_of_getElem? (i := 1) rfl)) (fun _ h9 => h9) rfl dX4_countWalks_82 ?_
  refine va_get (D := D) (ci := 0) (v := .ref aP) (C := RX0) (T := TX0) (N := 5) hx hb hts iw_X4_countWalks_X0 hown hK hP 0 rfl rfl 0 (by decide) (hts (.fieldLink RX4 49 "SoldHouse$Floor" "plan" "LSoldHouse$Plan;") (List.mem_of_getElem? (i := 2) rfl)) (fun _ h9 => h9) rfl dX4_countWalks_85 ?_
  refine va_get (D := D) (ci := 5) (v := .int 0) (C := RX5) (T := TX5) (N := 16) hx hb hts iw_X4_countWalks_X5 hown hK hP 1 rfl rfl 0 (by decide) (hts (.fieldLink RX4 55 "SoldHouse$Plan" "rooms" "I") (List.mem_of_getElem? (i := 3) rfl)) (fun _ h9 => h9) rfl dX4_countWalks_88 ?_
  refine lv_icmp_ge (tgt := 130) hx hb dX4_countWalks_91 (by decide) (fun _ => ?_) (fun c_23 => absurd (by decide) c_23)
  refine lv_iinc (v := 5) (lv' := [(2, .int 5), (3, .int 0), (0, .ref a0), (1, .int x)]) hx hb dX4_countWalks_130 hl (k := 1) rfl (by decide) (by decide) rfl (fun ls hl => ?_)
  refine lv_goto (tgt := 74) hx hb dX4_countWalks_133 (by decide) ?_
  refine lv_iload_n hx hb dX4_countWalks_74 rfl (lv_at hl 0 rfl) ?_
  refine lv_if_lt (tgt := 136) hx hb dX4_countWalks_75 (by decide) (fun c_24 => absurd c_24 (by decide)) (fun _ => ?_)
  refine lv_iconst (v := 0) hx hb dX4_countWalks_78 (by decide) ?_
  refine lv_istore_n (lv' := [(3, .int 0), (2, .int 5), (0, .ref a0), (1, .int x)]) hx hb dX4_countWalks_79 rfl hl (by decide) rfl (fun ls hl => ?_)
  refine lv_iload_n hx hb dX4_countWalks_80 rfl (lv_at hl 0 rfl) ?_
  refine lv_aload_n hx hb dX4_countWalks_81 rfl (lv_at hl 2 rfl) ?_
  refine va_get (D := D) (ci := 4) (v := .ref aF) (C := RX4) (T := TX4) (N := 10) hx hb hts iw_X4_countWalks_X4 hown hK hP 2 rfl rfl 0 (by decide) (hts (.fieldLink RX4 33 "SoldHouse$Night" "floor" "LSoldHouse$Floor;") (List.mem_of_getElem? (i := 1) rfl)) (fun _ h9 => h9) rfl dX4_countWalks_82 ?_
  refine va_get (D := D) (ci := 0) (v := .ref aP) (C := RX0) (T := TX0) (N := 5) hx hb hts iw_X4_countWalks_X0 hown hK hP 0 rfl rfl 0 (by decide) (hts (.fieldLink RX4 49 "SoldHouse$Floor" "plan" "LSoldHouse$Plan;") (List.mem_of_getElem? (i := 2) rfl)) (fun _ h9 => h9) rfl dX4_countWalks_85 ?_
  refine va_get (D := D) (ci := 5) (v := .int 0) (C := RX5) (T := TX5) (N := 16) hx hb hts iw_X4_countWalks_X5 hown hK hP 1 rfl rfl 0 (by decide) (hts (.fieldLink RX4 55 "SoldHouse$Plan" "rooms" "I") (List.mem_of_getElem? (i := 3) rfl)) (fun _ h9 => h9) rfl dX4_countWalks_88 ?_
  refine lv_icmp_ge (tgt := 130) hx hb dX4_countWalks_91 (by decide) (fun _ => ?_) (fun c_25 => absurd (by decide) c_25)
  refine lv_iinc (v := 4) (lv' := [(2, .int 4), (3, .int 0), (0, .ref a0), (1, .int x)]) hx hb dX4_countWalks_130 hl (k := 1) rfl (by decide) (by decide) rfl (fun ls hl => ?_)
  refine lv_goto (tgt := 74) hx hb dX4_countWalks_133 (by decide) ?_
  refine lv_iload_n hx hb dX4_countWalks_74 rfl (lv_at hl 0 rfl) ?_
  refine lv_if_lt (tgt := 136) hx hb dX4_countWalks_75 (by decide) (fun c_26 => absurd c_26 (by decide)) (fun _ => ?_)
  refine lv_iconst (v := 0) hx hb dX4_countWalks_78 (by decide) ?_
  refine lv_istore_n (lv' := [(3, .int 0), (2, .int 4), (0, .ref a0), (1, .int x)]) hx hb dX4_countWalks_79 rfl hl (by decide) rfl (fun ls hl => ?_)
  refine lv_iload_n hx hb dX4_countWalks_80 rfl (lv_at hl 0 rfl) ?_
  refine lv_aload_n hx hb dX4_countWalks_81 rfl (lv_at hl 2 rfl) ?_
  refine va_get (D := D) (ci := 4) (v := .ref aF) (C := RX4) (T := TX4) (N := 10) hx hb hts iw_X4_countWalks_X4 hown hK hP 2 rfl rfl 0 (by decide) (hts (.fieldLink RX4 33 "SoldHouse$Night" "floor" "LSoldHouse$Floor;") (List.mem_of_getElem? (i := 1) rfl)) (fun _ h9 => h9) rfl dX4_countWalks_82 ?_
  refine va_get (D := D) (ci := 0) (v := .ref aP) (C := RX0) (T := TX0) (N := 5) hx hb hts iw_X4_countWalks_X0 hown hK hP 0 rfl rfl 0 (by decide) (hts (.fieldLink RX4 49 "SoldHouse$Floor" "plan" "LSoldHouse$Plan;") (List.mem_of_getElem? (i := 2) rfl)) (fun _ h9 => h9) rfl dX4_countWalks_85 ?_
  refine va_get (D := D) (ci := 5) (v := .int 0) (C := RX5) (T := TX5) (N := 16) hx hb hts iw_X4_countWalks_X5 hown hK hP 1 rfl rfl 0 (by decide) (hts (.fieldLink RX4 55 "SoldHouse$Plan" "rooms" "I") (List.mem_of_getElem? (i := 3) rfl)) (fun _ h9 => h9) rfl dX4_countWalks_88 ?_
  refine lv_icmp_ge (tgt := 130) hx hb dX4_countWalks_91 (by decide) (fun _ => ?_) (fun c_27 => absurd (by decide) c_27)
  refine lv_iinc (v := 3) (lv' := [(2, .int 3), (3, .int 0), (0, .ref a0), (1, .int x)]) hx hb dX4_countWalks_130 hl (k := 1) rfl (by decide) (by decide) rfl (fun ls hl => ?_)
  refine lv_goto (tgt := 74) hx hb dX4_countWalks_133 (by decide) ?_
  refine lv_iload_n hx hb dX4_countWalks_74 rfl (lv_at hl 0 rfl) ?_
  refine lv_if_lt (tgt := 136) hx hb dX4_countWalks_75 (by decide) (fun c_28 => absurd c_28 (by decide)) (fun _ => ?_)
  refine lv_iconst (v := 0) hx hb dX4_countWalks_78 (by decide) ?_
  refine lv_istore_n (lv' := [(3, .int 0), (2, .int 3), (0, .ref a0), (1, .int x)]) hx hb dX4_countWalks_79 rfl hl (by decide) rfl (fun ls hl => ?_)
  refine lv_iload_n hx hb dX4_countWalks_80 rfl (lv_at hl 0 rfl) ?_
  refine lv_aload_n hx hb dX4_countWalks_81 rfl (lv_at hl 2 rfl) ?_
  refine va_get (D := D) (ci := 4) (v := .ref aF) (C := RX4) (T := TX4) (N := 10) hx hb hts iw_X4_countWalks_X4 hown hK hP 2 rfl rfl 0 (by decide) (hts (.fieldLink RX4 33 "SoldHouse$Night" "floor" "LSoldHouse$Floor;") (List.mem_of_getElem? (i := 1) rfl)) (fun _ h9 => h9) rfl dX4_countWalks_82 ?_
  refine va_get (D := D) (ci := 0) (v := .ref aP) (C := RX0) (T := TX0) (N := 5) hx hb hts iw_X4_countWalks_X0 hown hK hP 0 rfl rfl 0 (by decide) (hts (.fieldLink RX4 49 "SoldHouse$Floor" "plan" "LSoldHouse$Plan;") (List.mem_of_getElem? (i := 2) rfl)) (fun _ h9 => h9) rfl dX4_countWalks_85 ?_
  refine va_get (D := D) (ci := 5) (v := .int 0) (C := RX5) (T := TX5) (N := 16) hx hb hts iw_X4_countWalks_X5 hown hK hP 1 rfl rfl 0 (by decide) (hts (.fieldLink RX4 55 "SoldHouse$Plan" "rooms" "I") (List.mem_of_getElem? (i := 3) rfl)) (fun _ h9 => h9) rfl dX4_countWalks_88 ?_
  refine lv_icmp_ge (tgt := 130) hx hb dX4_countWalks_91 (by decide) (fun _ => ?_) (fun c_29 => absurd (by decide) c_29)
  refine lv_iinc (v := 2) (lv' := [(2, .int 2), (3, .int 0), (0, .ref a0), (1, .int x)]) hx hb dX4_countWalks_130 hl (k := 1) rfl (by decide) (by decide) rfl (fun ls hl => ?_)
  refine lv_goto (tgt := 74) hx hb dX4_countWalks_133 (by decide) ?_
  refine lv_iload_n hx hb dX4_countWalks_74 rfl (lv_at hl 0 rfl) ?_
  refine lv_if_lt (tgt := 136) hx hb dX4_countWalks_75 (by decide) (fun c_30 => absurd c_30 (by decide)) (fun _ => ?_)
  refine lv_iconst (v := 0) hx hb dX4_countWalks_78 (by decide) ?_
  refine lv_istore_n (lv' := [(3, .int 0), (2, .int 2), (0, .ref a0), (1, .int x)]) hx hb dX4_countWalks_79 rfl hl (by decide) rfl (fun ls hl => ?_)
  refine lv_iload_n hx hb dX4_countWalks_80 rfl (lv_at hl 0 rfl) ?_
  refine lv_aload_n hx hb dX4_countWalks_81 rfl (lv_at hl 2 rfl) ?_
  refine va_get (D := D) (ci := 4) (v := .ref aF) (C := RX4) (T := TX4) (N := 10) hx hb hts iw_X4_countWalks_X4 hown hK hP 2 rfl rfl 0 (by decide) (hts (.fieldLink RX4 33 "SoldHouse$Night" "floor" "LSoldHouse$Floor;") (List.mem_of_getElem? (i := 1) rfl)) (fun _ h9 => h9) rfl dX4_countWalks_82 ?_
  refine va_get (D := D) (ci := 0) (v := .ref aP) (C := RX0) (T := TX0) (N := 5) hx hb hts iw_X4_countWalks_X0 hown hK hP 0 rfl rfl 0 (by decide) (hts (.fieldLink RX4 49 "SoldHouse$Floor" "plan" "LSoldHouse$Plan;") (List.mem_of_getElem? (i := 2) rfl)) (fun _ h9 => h9) rfl dX4_countWalks_85 ?_
  refine va_get (D := D) (ci := 5) (v := .int 0) (C := RX5) (T := TX5) (N := 16) hx hb hts iw_X4_countWalks_X5 hown hK hP 1 rfl rfl 0 (by decide) (hts (.fieldLink RX4 55 "SoldHouse$Plan" "rooms" "I") (List.mem_of_getElem? (i := 3) rfl)) (fun _ h9 => h9) rfl dX4_countWalks_88 ?_
  refine lv_icmp_ge (tgt := 130) hx hb dX4_countWalks_91 (by decide) (fun _ => ?_) (fun c_31 => absurd (by decide) c_31)
  refine lv_iinc (v := 1) (lv' := [(2, .int 1), (3, .int 0), (0, .ref a0), (1, .int x)]) hx hb dX4_countWalks_130 hl (k := 1) rfl (by decide) (by decide) rfl (fun ls hl => ?_)
  refine lv_goto (tgt := 74) hx hb dX4_countWalks_133 (by decide) ?_
  refine lv_iload_n hx hb dX4_countWalks_74 rfl (lv_at hl 0 rfl) ?_
  refine lv_if_lt (tgt := 136) hx hb dX4_countWalks_75 (by decide) (fun c_32 => absurd c_32 (by decide)) (fun _ => ?_)
  refine lv_iconst (v := 0) hx hb dX4_countWalks_78 (by decide) ?_
  refine lv_istore_n (lv' := [(3, .int 0), (2, .int 1), (0, .ref a0), (1, .int x)]) hx hb dX4_countWalks_79 rfl hl (by decide) rfl (fun ls hl => ?_)
  refine lv_iload_n hx hb dX4_countWalks_80 rfl (lv_at hl 0 rfl) ?_
  refine lv_aload_n hx hb dX4_countWalks_81 rfl (lv_at hl 2 rfl) ?_
  refine va_get (D := D) (ci := 4) (v := .ref aF) (C := RX4) (T := TX4) (N := 10) hx hb hts iw_X4_countWalks_X4 hown hK hP 2 rfl rfl 0 (by decide) (hts (.fieldLink RX4 33 "SoldHouse$Night" "floor" "LSoldHouse$Floor;") (List.mem_of_getElem? (i := 1) rfl)) (fun _ h9 => h9) rfl dX4_countWalks_82 ?_
  refine va_get (D := D) (ci := 0) (v := .ref aP) (C := RX0) (T := TX0) (N := 5) hx hb hts iw_X4_countWalks_X0 hown hK hP 0 rfl rfl 0 (by decide) (hts (.fieldLink RX4 49 "SoldHouse$Floor" "plan" "LSoldHouse$Plan;") (List.mem_of_getElem? (i := 2) rfl)) (fun _ h9 => h9) rfl dX4_countWalks_85 ?_
  refine va_get (D := D) (ci := 5) (v := .int 0) (C := RX5) (T := TX5) (N := 16) hx hb hts iw_X4_countWalks_X5 hown hK hP 1 rfl rfl 0 (by decide) (hts (.fieldLink RX4 55 "SoldHouse$Plan" "rooms" "I") (List.mem_of_getElem? (i := 3) rfl)) (fun _ h9 => h9) rfl dX4_countWalks_88 ?_
  refine lv_icmp_ge (tgt := 130) hx hb dX4_countWalks_91 (by decide) (fun _ => ?_) (fun c_33 => absurd (by decide) c_33)
  refine lv_iinc (v := 0) (lv' := [(2, .int 0), (3, .int 0), (0, .ref a0), (1, .int x)]) hx hb dX4_countWalks_130 hl (k := 1) rfl (by decide) (by decide) rfl (fun ls hl => ?_)
  refine lv_goto (tgt := 74) hx hb dX4_countWalks_133 (by decide) ?_
  refine lv_iload_n hx hb dX4_countWalks_74 rfl (lv_at hl 0 rfl) ?_
  refine lv_if_lt (tgt := 136) hx hb dX4_countWalks_75 (by decide) (fun c_34 => absurd c_34 (by decide)) (fun _ => ?_)
  refine lv_iconst (v := 0) hx hb dX4_countWalks_78 (by decide) ?_
  refine lv_istore_n (lv' := [(3, .int 0), (2, .int 0), (0, .ref a0), (1, .int x)]) hx hb dX4_countWalks_79 rfl hl (by decide) rfl (fun ls hl => ?_)
  refine lv_iload_n hx hb dX4_countWalks_80 rfl (lv_at hl 0 rfl) ?_
  refine lv_aload_n hx hb dX4_countWalks_81 rfl (lv_at hl 2 rfl) ?_
  refine va_get (D := D) (ci := 4) (v := .ref aF) (C := RX4) (T := TX4) (N := 10) hx hb hts iw_X4_countWalks_X4 hown hK hP 2 rfl rfl 0 (by decide) (hts (.fieldLink RX4 33 "SoldHouse$Night" "floor" "LSoldHouse$Floor;") (List.mem_of_getElem? (i := 1) rfl)) (fun _ h9 => h9) rfl dX4_countWalks_82 ?_
  refine va_get (D := D) (ci := 0) (v := .ref aP) (C := RX0) (T := TX0) (N := 5) hx hb hts iw_X4_countWalks_X0 hown hK hP 0 rfl rfl 0 (by decide) (hts (.fieldLink RX4 49 "SoldHouse$Floor" "plan" "LSoldHouse$Plan;") (List.mem_of_getElem? (i := 2) rfl)) (fun _ h9 => h9) rfl dX4_countWalks_85 ?_
  refine va_get (D := D) (ci := 5) (v := .int 0) (C := RX5) (T := TX5) (N := 16) hx hb hts iw_X4_countWalks_X5 hown hK hP 1 rfl rfl 0 (by decide) (hts (.fieldLink RX4 55 "SoldHouse$Plan" "rooms" "I") (List.mem_of_getElem? (i := 3) rfl)) (fun _ h9 => h9) rfl dX4_countWalks_88 ?_
  refine lv_icmp_ge (tgt := 130) hx hb dX4_countWalks_91 (by decide) (fun _ => ?_) (fun c_35 => absurd (by decide) c_35)
  refine lv_iinc (v := (-1)) (lv' := [(2, .int (-1)), (3, .int 0), (0, .ref a0), (1, .int x)]) hx hb dX4_countWalks_130 hl (k := 1) rfl (by decide) (by decide) rfl (fun ls hl => ?_)
  refine lv_goto (tgt := 74) hx hb dX4_countWalks_133 (by decide) ?_
  refine lv_iload_n hx hb dX4_countWalks_74 rfl (lv_at hl 0 rfl) ?_
  refine lv_if_lt (tgt := 136) hx hb dX4_countWalks_75 (by decide) (fun _ => ?_) (fun c_36 => absurd (by decide) c_36)
  refine lv_iconst (v := 0) hx hb dX4_countWalks_136 (by decide) ?_
  refine lv_istore_n (lv' := [(2, .int 0), (3, .int 0), (0, .ref a0), (1, .int x)]) hx hb dX4_countWalks_137 rfl hl (by decide) rfl (fun ls hl => ?_)
  refine lv_iconst (v := 0) hx hb dX4_countWalks_138 (by decide) ?_
  refine lv_istore_n (lv' := [(3, .int 0), (2, .int 0), (0, .ref a0), (1, .int x)]) hx hb dX4_countWalks_139 rfl hl (by decide) rfl (fun ls hl => ?_)
  refine lv_iload_n hx hb dX4_countWalks_140 rfl (lv_at hl 0 rfl) ?_
  refine lv_aload_n hx hb dX4_countWalks_141 rfl (lv_at hl 2 rfl) ?_
  refine va_get (D := D) (ci := 4) (v := .ref aF) (C := RX4) (T := TX4) (N := 10) hx hb hts iw_X4_countWalks_X4 hown hK hP 2 rfl rfl 0 (by decide) (hts (.fieldLink RX4 33 "SoldHouse$Night" "floor" "LSoldHouse$Floor;") (List.mem_of_getElem? (i := 1) rfl)) (fun _ h9 => h9) rfl dX4_countWalks_142 ?_
  refine va_get (D := D) (ci := 0) (v := .ref aP) (C := RX0) (T := TX0) (N := 5) hx hb hts iw_X4_countWalks_X0 hown hK hP 0 rfl rfl 0 (by decide) (hts (.fieldLink RX4 49 "SoldHouse$Floor" "plan" "LSoldHouse$Plan;") (List.mem_of_getElem? (i := 2) rfl)) (fun _ h9 => h9) rfl dX4_countWalks_145 ?_
  refine va_get (D := D) (ci := 5) (v := .int 0) (C := RX5) (T := TX5) (N := 16) hx hb hts iw_X4_countWalks_X5 hown hK hP 1 rfl rfl 0 (by decide) (hts (.fieldLink RX4 55 "SoldHouse$Plan" "rooms" "I") (List.mem_of_getElem? (i := 3) rfl)) (fun _ h9 => h9) rfl dX4_countWalks_148 ?_
  refine lv_icmp_ge (tgt := 169) hx hb dX4_countWalks_151 (by decide) (fun _ => ?_) (fun c_37 => absurd (by decide) c_37)
  refine lv_iload_n hx hb dX4_countWalks_169 rfl (lv_at hl 1 rfl) ?_
  refine W.widen (k := 0) (n := 0) (Nat.le_of_ble_eq_true rfl) (Nat.le_of_ble_eq_true rfl) ?_
  exact W.iret (v := 0) hx hb hr (fun t ht hW => ⟨⟨0, (), rfl, rfl, trivial⟩, hS.F ht⟩) hS.2.2 dX4_countWalks_170
