set_option maxHeartbeats 4000000 in
set_option maxRecDepth 100000 in
theorem c_X12_nooks (l : Launch) (D : va_G) (cI : ClassId) (cB : ClassId) (cL : ClassId) (cZ : ClassId) (cG : ClassId) (MO : Nat) (aMO : Nat → Nat) (MO_taped : Int32) (MO_size : Int32) (MO_faultKind : Int32) (MO_faultPlace : Int32) (MO_at : Int32) (MO_end : Int32) (MO_token : Int32) (MO_number : Int32) (MO_name : Int64) (MO_bank : Int32) (MO_rb : Int32) (MO_codes : Int32) (MO_within : Int32) (MO_piled : Int32) (MO_unitsInRule : Int32) (MO_askThing : Int32) (MO_acts : Int32) (MO_undone : Int32) (MO_laid : Int32) (MO_heards : Int32) (MO_time : Int32) (MO_rooms : Nat → Int32) (MO_doors : Nat → Int32) (MO_one : Nat → Int32) (MO_other : Nat → Int32) (b_MO_taped : zB MO_taped 0 1600) (b_MO_size : zB MO_size 0 1600) (b_MO_faultKind : zB MO_faultKind 0 5) (b_MO_at : zB MO_at 0 1600) (b_MO_end : zB MO_end 0 1600) (b_MO_token : zB MO_token 0 5) (b_MO_bank : zB MO_bank 0 1) (b_MO_rb : zB MO_rb 0 1) (b_MO_codes : zB MO_codes 0 1120) (b_MO_within : zB MO_within 0 7) (b_MO_piled : zB MO_piled 0 89) (b_MO_unitsInRule : zB MO_unitsInRule 0 30) (b_MO_askThing : zB MO_askThing 0 5) (b_MO_acts : zB MO_acts 0 40) (b_MO_undone : zB MO_undone 0 40) (b_MO_laid : zB MO_laid 0 8) (b_MO_heards : zB MO_heards 0 30) (b_MO_time : zB MO_time 0 100000) (s_MO_rooms_0 : zA MO_rooms 0 2 0 8) (s_MO_doors_0 : zA MO_doors 0 2 0 12) (s_MO_one_0 : zA MO_one 0 24 0 7) (s_MO_other_0 : zA MO_other 0 24 0 7) : Met l yX12_nooks wsX12_nooks ({ frames := 2, cells := 0, slots := 0, locals := 45 }) (xr D [(cI, .int), (cB, .byte), (cL, .long), (cZ, .boolean), (cG, .array .int)] [(MO, .inr (12, oX12 aMO MO_taped MO_size MO_faultKind MO_faultPlace MO_at MO_end MO_token MO_number MO_name MO_bank MO_rb MO_codes MO_within MO_piled MO_unitsInRule MO_askThing MO_acts MO_undone MO_laid MO_heards MO_time)), ((aMO 11), .inl (cI, 2, .inl MO_rooms)), ((aMO 12), .inl (cI, 2, .inl MO_doors)), ((aMO 17), .inl (cI, 24, .inl MO_one)), ((aMO 18), .inl (cI, 24, .inl MO_other))] [.ref MO]) (vp_Si (fun r => zB r 0 255)) 0 0 (fun _ => False) := by
  refine Met.ofW (cc := cX12_nooks) (maxL := 3) (ret := (some .int)) (by decide) rfl ?_
  intro p e s m args below meth c s₁ B hml hv
  obtain ⟨rfl, hP, hK⟩ := hv
  have hx := B.exec
  have hb := B.bytes
  have hr := B.returns
  have hts := atoms_spec (ws := wsX12_nooks) B.pre
  have hown : s.vm.findClass RX12 = some m.cls := findClass_of_methodNamed B.named
  have hlocks := B.notSynchronized
  clear B
  have hl := lv_entry ([.ref MO]) (n := 3) (Nat.le_of_ble_eq_true rfl)
  rw [lg_entry_eq]
  generalize (lg_sl ([.ref MO]) ++ List.replicate (3 - (lg_sl ([.ref MO])).length) Slot.unset).toArray = ls at hl ⊢
  replace hl : lv_has ls 3 [(0, .ref MO)] := hl
  refine zz_abs (R := ({ frames := 2, cells := 0, slots := 0, locals := 45 } : Room)) (fun Q up => ?_)
  refine lv_iconst (v := 0) hx hb dX12_nooks_0 (by decide) ?_
  refine lv_istore_n (lv' := [(1, .int 0), (0, .ref MO)]) hx hb dX12_nooks_1 rfl hl (by decide) rfl (fun ls hl => ?_)
  refine lv_iconst (v := 0) hx hb dX12_nooks_2 (by decide) ?_
  have j4 : ∀ (n4 : Nat) (ls : Array Slot) (v4_2 : Int32) (v4_1 : Int32), zB v4_2 0 8 → zB v4_1 0 255 → zA MO_rooms 0 2 0 8 → zA MO_doors 0 2 0 12 → zA MO_one 0 24 0 7 → zA MO_other 0 24 0 7 → (8 + 1 - v4_2.toInt) ≤ (n4 : Int) → lv_has ls 3 [(2, .int v4_2), (1, .int v4_1), (0, .ref MO)] → W p l e ({ frames := 2, cells := 0, slots := 0, locals := 45 } : Room) s m ([.ref MO] : List Value).toArray below meth c s.heap [] 0 0 Q (F0 m 4 ls []) := by
    intro n4
    induction n4 with
    | zero => intro ls v4_2 v4_1 bv4_2_k4 bv4_1_k4 sMO_rooms_0_k4 sMO_doors_0_k4 sMO_one_0_k4 sMO_other_0_k4 hm4 hl; exact zM_u0 bv4_2_k4 hm4
    | succ n4 ih4 =>
      intro ls v4_2 v4_1 bv4_2_k4 bv4_1_k4 sMO_rooms_0_k4 sMO_doors_0_k4 sMO_one_0_k4 sMO_other_0_k4 hm4 hl
      refine lv_iload_n hx hb dX12_nooks_4 rfl (lv_at hl 0 rfl) ?_
      refine lv_aload_n hx hb dX12_nooks_5 rfl (lv_at hl 2 rfl) ?_
      have hPc := hP.sub (ws' := [(MO, .inr (12, oX12 aMO MO_taped MO_size MO_faultKind MO_faultPlace MO_at MO_end MO_token MO_number MO_name MO_bank MO_rb MO_codes MO_within MO_piled MO_unitsInRule MO_askThing MO_acts MO_undone MO_laid MO_heards MO_time)), ((aMO 11), .inl (cI, 2, .inl MO_rooms))]) [0, 1] rfl
      refine vp_callSi (va_runV (As := []) (rest := [.int v4_2]) ⟨hx, hb, hml, hown, hts⟩ (c_X12_places l D cI cB cL cZ cG MO aMO MO_taped MO_size MO_faultKind MO_faultPlace MO_at MO_end MO_token MO_number MO_name MO_bank MO_rb MO_codes MO_within MO_piled MO_unitsInRule MO_askThing MO_acts MO_undone MO_laid MO_heards MO_time MO_rooms b_MO_taped b_MO_size b_MO_faultKind b_MO_at b_MO_end b_MO_token b_MO_bank b_MO_rb b_MO_codes b_MO_within b_MO_piled b_MO_unitsInRule b_MO_askThing b_MO_acts b_MO_undone b_MO_laid b_MO_heards b_MO_time sMO_rooms_0_k4) (cwV 0 hts gX12_nooks_X12_places rfl rfl rfl (by decide +kernel) ⟨Nat.le_of_ble_eq_true rfl, Nat.le_of_ble_eq_true rfl⟩) ⟨xr_blind, va_recv hK hP (ci := 12) (q0 := 0) rfl rfl, fun U hU hW => xr_mk hU hW hPc hK⟩ rfl rfl hl.1 rfl (lv_room (Nat.le_of_ble_eq_true rfl)) dX12_nooks_6 ⟨Nat.le_of_ble_eq_true rfl, Nat.le_of_ble_eq_true rfl⟩).run (fun r6 hr6 => ?_)
      obtain ⟨hr6, p6_v, p6_i⟩ := hr6
      clear hPc
      refine lv_icmp_ge (tgt := 37) hx hb dX12_nooks_9 (by decide) (fun c9 => ?_) (fun c9 => ?_)
      · refine lv_iload_n hx hb dX12_nooks_37 rfl (lv_at hl 1 rfl) ?_
        exact up _ _ _ (W.iret (v := v4_1) hx hb hr (fun t ht hW => ⟨v4_1, rfl, bv4_1_k4, ht⟩) (fun q hq => by cases hq) dX12_nooks_38)
      · have bx9f_v4_2 : zB v4_2 0 7 := zB_ltu (zf c9) bv4_2_k4 hr6 (by decide)
        have by9f_r6 : zB r6 1 8 := zB_ltv (zf c9) bx9f_v4_2 hr6 (by decide)
        refine lv_aload_n hx hb dX12_nooks_12 rfl (lv_at hl 2 rfl) ?_
        refine lv_iload_n hx hb dX12_nooks_13 rfl (lv_at hl 0 rfl) ?_
        refine lv_iconst (v := (-1)) hx hb dX12_nooks_14 (by decide) ?_
        have hPc := hP.sub (ws' := [(MO, .inr (12, oX12 aMO MO_taped MO_size MO_faultKind MO_faultPlace MO_at MO_end MO_token MO_number MO_name MO_bank MO_rb MO_codes MO_within MO_piled MO_unitsInRule MO_askThing MO_acts MO_undone MO_laid MO_heards MO_time)), ((aMO 12), .inl (cI, 2, .inl MO_doors)), ((aMO 17), .inl (cI, 24, .inl MO_one)), ((aMO 18), .inl (cI, 24, .inl MO_other))]) [0, 2, 3, 4] rfl
        refine vp_callSi (va_runV (As := [.int v4_2, .int (-1)]) (rest := []) ⟨hx, hb, hml, hown, hts⟩ (c_X12_behind l D cI cB cL cZ cG MO v4_2 (-1) aMO MO_taped MO_size MO_faultKind MO_faultPlace MO_at MO_end MO_token MO_number MO_name MO_bank MO_rb MO_codes MO_within MO_piled MO_unitsInRule MO_askThing MO_acts MO_undone MO_laid MO_heards MO_time MO_doors MO_one MO_other b_MO_taped b_MO_size b_MO_faultKind b_MO_at b_MO_end b_MO_token b_MO_bank b_MO_rb b_MO_codes b_MO_within b_MO_piled b_MO_unitsInRule b_MO_askThing b_MO_acts b_MO_undone b_MO_laid b_MO_heards b_MO_time sMO_doors_0_k4 sMO_one_0_k4 sMO_other_0_k4) (cwV 2 hts gX12_nooks_X12_behind rfl rfl rfl (by decide +kernel) ⟨Nat.le_of_ble_eq_true rfl, Nat.le_of_ble_eq_true rfl⟩) ⟨xr_blind, va_recv hK hP (ci := 12) (q0 := 0) rfl rfl, fun U hU hW => xr_mk hU hW hPc hK⟩ rfl rfl hl.1 rfl (lv_room (Nat.le_of_ble_eq_true rfl)) dX12_nooks_15 ⟨Nat.le_of_ble_eq_true rfl, Nat.le_of_ble_eq_true rfl⟩).run (fun r15 hr15 => ?_)
        obtain ⟨hr15, p15_b, p15_u⟩ := hr15
        clear hPc
        have hPc := hP.sub (ws' := []) [] rfl
        refine vp_callSi (va_runS (As := [.int r15]) (rest := []) ⟨hx, hb, hml, hown, hts⟩ (c_X12_bitsOf l D cI cB cL cZ cG r15 hr15) (va_cwS 1 hts gX12_nooks_X12_bitsOf rfl rfl rfl (by decide +kernel) ⟨Nat.le_of_ble_eq_true rfl, Nat.le_of_ble_eq_true rfl⟩) ⟨xr_blind, fun U hU hW => xr_mk hU hW hPc hK⟩ rfl rfl hl.1 rfl (lv_room (Nat.le_of_ble_eq_true rfl)) dX12_nooks_18 ⟨Nat.le_of_ble_eq_true rfl, Nat.le_of_ble_eq_true rfl⟩).run (fun r18 hr18 => ?_)
        clear hPc
        clear hr18
        refine lv_iconst (v := 2) hx hb dX12_nooks_21 (by decide) ?_
        have j31 : ∀ (ls : Array Slot) (v31_1 : Int32), zB v31_1 0 255 → zA MO_rooms 0 2 0 8 → zA MO_doors 0 2 0 12 → zA MO_one 0 24 0 7 → zA MO_other 0 24 0 7 → lv_has ls 3 [(2, .int v4_2), (1, .int v31_1), (0, .ref MO)] → W p l e ({ frames := 2, cells := 0, slots := 0, locals := 45 } : Room) s m ([.ref MO] : List Value).toArray below meth c s.heap [] 0 0 Q (F0 m 31 ls []) := by
          intro ls v31_1 bv31_1_k31 sMO_rooms_0_k31 sMO_doors_0_k31 sMO_one_0_k31 sMO_other_0_k31 hl
          obtain ⟨y31, by31, ry31, ey31⟩ := zi_inc (x := v4_2) (k := 1) (a := 1) (b := 8) bx9f_v4_2 (by decide) (by decide) (by decide) (by decide) (by decide)
          refine lv_iinc (v := y31) (lv' := [(2, .int y31), (1, .int v31_1), (0, .ref MO)]) hx hb dX12_nooks_31 hl (k := 0) rfl ey31 (by decide) rfl (fun ls hl => ?_)
          refine lv_goto (tgt := 4) hx hb dX12_nooks_34 (by decide) ?_
          exact ih4 ls y31 v31_1 (zB_w by31 (by decide) (by decide)) bv31_1_k31 sMO_rooms_0_k31 sMO_doors_0_k31 sMO_one_0_k31 sMO_other_0_k31 (zM_us (k := 1) hm4 ry31 (by decide)) (lv_sub hl [0, 1, 2] rfl)
        refine lv_icmp_ge (tgt := 31) hx hb dX12_nooks_22 (by decide) (fun c22 => ?_) (fun c22 => ?_)
        · have by22t_r18 : zB r18 2 2147483647 := zB_lev (ze c22) (show zB 2 2 2 from ⟨by decide, by decide⟩) (zB_top r18) (by decide)
          exact j31 ls v4_1 bv4_1_k4 sMO_rooms_0_k4 sMO_doors_0_k4 sMO_one_0_k4 sMO_other_0_k4 (lv_sub hl [0, 1, 2] rfl)
        · have bx22f_r18 : zB r18 (-2147483648) 1 := zB_ltu (zf c22) (zB_top r18) (show zB 2 2 2 from ⟨by decide, by decide⟩) (by decide)
          refine lv_iload_n hx hb dX12_nooks_25 rfl (lv_at hl 1 rfl) ?_
          refine lv_iconst (v := 1) hx hb dX12_nooks_26 (by decide) ?_
          refine lv_iload_n hx hb dX12_nooks_27 rfl (lv_at hl 0 rfl) ?_
          refine lv_ishl hx hb dX12_nooks_28 ?_
          refine zi_top (a := 1) (b := 128) (zB_shl1 bx9f_v4_2 (by decide) (by decide) (by decide) (by decide)) (fun y28 by28 => ?_)
          refine lv_ior hx hb dX12_nooks_29 ?_
          refine zi_top (a := 1) (b := 255) (zB_or 8 bv4_1_k4 by28 (by decide) (by decide) (by decide) (by decide) (by decide) (by decide) (by decide)) (fun y29 by29 => ?_)
          refine lv_istore_n (lv' := [(1, .int y29), (2, .int v4_2), (0, .ref MO)]) hx hb dX12_nooks_30 rfl hl (by decide) rfl (fun ls hl => ?_)
          exact j31 ls y29 (zB_w by29 (by decide) (by decide)) sMO_rooms_0_k4 sMO_doors_0_k4 sMO_one_0_k4 sMO_other_0_k4 (lv_sub hl [1, 0, 2] rfl)
  refine lv_istore_n (lv' := [(2, .int 0), (1, .int 0), (0, .ref MO)]) hx hb dX12_nooks_3 rfl hl (by decide) rfl (fun ls hl => ?_)
  exact j4 9 ls 0 0 (zB_w (show zB 0 0 0 from ⟨by decide, by decide⟩) (by decide) (by decide)) (zB_w (show zB 0 0 0 from ⟨by decide, by decide⟩) (by decide) (by decide)) s_MO_rooms_0 s_MO_doors_0 s_MO_one_0 s_MO_other_0 (zM_ui (show zB 0 0 0 from ⟨by decide, by decide⟩) (by decide)) (lv_sub hl [0, 1, 2] rfl)
set_option maxHeartbeats 4000000 in
set_option maxRecDepth 100000 in
theorem c_X12_echo (l : Launch) (D : va_G) (cI : ClassId) (cB : ClassId) (cL : ClassId) (cZ : ClassId) (cG : ClassId) (MO : Nat) (x0 : Int32) (x1 : Int32) (aMO : Nat → Nat) (MO_taped : Int32) (MO_size : Int32) (MO_faultKind : Int32) (MO_faultPlace : Int32) (MO_at : Int32) (MO_end : Int32) (MO_token : Int32) (MO_number : Int32) (MO_name : Int64) (MO_bank : Int32) (MO_rb : Int32) (MO_codes : Int32) (MO_within : Int32) (MO_piled : Int32) (MO_unitsInRule : Int32) (MO_askThing : Int32) (MO_acts : Int32) (MO_undone : Int32) (MO_laid : Int32) (MO_heards : Int32) (MO_time : Int32) (MO_rooms : Nat → Int32) (MO_table : Nat → Int32) (MO_creaks : Nat → Int32) (b_MO_taped : zB MO_taped 0 1600) (b_MO_size : zB MO_size 0 1600) (b_MO_faultKind : zB MO_faultKind 0 5) (b_MO_at : zB MO_at 0 1600) (b_MO_end : zB MO_end 0 1600) (b_MO_token : zB MO_token 0 5) (b_MO_bank : zB MO_bank 0 1) (b_MO_rb : zB MO_rb 0 1) (b_MO_codes : zB MO_codes 0 1120) (b_MO_within : zB MO_within 0 7) (b_MO_piled : zB MO_piled 0 89) (b_MO_unitsInRule : zB MO_unitsInRule 0 30) (b_MO_askThing : zB MO_askThing 0 5) (b_MO_acts : zB MO_acts 0 40) (b_MO_undone : zB MO_undone 0 40) (b_MO_laid : zB MO_laid 0 8) (b_MO_heards : zB MO_heards 0 30) (b_MO_time : zB MO_time 0 100000) (s_MO_rooms_0 : zA MO_rooms 0 2 0 8) (s_MO_table_0 : zA MO_table 0 64 0 10000) (s_MO_creaks_0 : zA MO_creaks 0 16 0 9) : Met l yX12_echo wsX12_echo ({ frames := 2, cells := 0, slots := 0, locals := 43 }) (xr D [(cI, .int), (cB, .byte), (cL, .long), (cZ, .boolean), (cG, .array .int)] [(MO, .inr (12, oX12 aMO MO_taped MO_size MO_faultKind MO_faultPlace MO_at MO_end MO_token MO_number MO_name MO_bank MO_rb MO_codes MO_within MO_piled MO_unitsInRule MO_askThing MO_acts MO_undone MO_laid MO_heards MO_time)), ((aMO 11), .inl (cI, 2, .inl MO_rooms)), ((aMO 43), .inl (cI, 64, .inl MO_table)), ((aMO 16), .inl (cI, 16, .inl MO_creaks))] [.ref MO, .int x0, .int x1]) (vp_Si (fun r => True)) 0 0 (fun _ => False) := by
  refine Met.ofW (cc := cX12_echo) (maxL := 5) (ret := (some .int)) (by decide) rfl ?_
  intro p e s m args below meth c s₁ B hml hv
  obtain ⟨rfl, hP, hK⟩ := hv
  have hx := B.exec
  have hb := B.bytes
  have hr := B.returns
  have hts := atoms_spec (ws := wsX12_echo) B.pre
  have hown : s.vm.findClass RX12 = some m.cls := findClass_of_methodNamed B.named
  have hlocks := B.notSynchronized
  clear B
  have hl := lv_entry ([.ref MO, .int x0, .int x1]) (n := 5) (Nat.le_of_ble_eq_true rfl)
  rw [lg_entry_eq]
  generalize (lg_sl ([.ref MO, .int x0, .int x1]) ++ List.replicate (5 - (lg_sl ([.ref MO, .int x0, .int x1])).length) Slot.unset).toArray = ls at hl ⊢
  replace hl : lv_has ls 5 [(0, .ref MO), (1, .int x0), (2, .int x1)] := hl
  refine zz_abs (R := ({ frames := 2, cells := 0, slots := 0, locals := 43 } : Room)) (fun Q up => ?_)
  refine lv_aload_n hx hb dX12_echo_0 rfl (lv_at hl 0 rfl) ?_
  refine lv_iload_n hx hb dX12_echo_1 rfl (lv_at hl 1 rfl) ?_
  have hPc := hP.sub (ws' := [(MO, .inr (12, oX12 aMO MO_taped MO_size MO_faultKind MO_faultPlace MO_at MO_end MO_token MO_number MO_name MO_bank MO_rb MO_codes MO_within MO_piled MO_unitsInRule MO_askThing MO_acts MO_undone MO_laid MO_heards MO_time)), ((aMO 11), .inl (cI, 2, .inl MO_rooms))]) [0, 1] rfl
  refine vp_callSi (va_runV (As := [.int x0]) (rest := []) ⟨hx, hb, hml, hown, hts⟩ (c_X12_isRoom l D cI cB cL cZ cG MO x0 aMO MO_taped MO_size MO_faultKind MO_faultPlace MO_at MO_end MO_token MO_number MO_name MO_bank MO_rb MO_codes MO_within MO_piled MO_unitsInRule MO_askThing MO_acts MO_undone MO_laid MO_heards MO_time MO_rooms b_MO_taped b_MO_size b_MO_faultKind b_MO_at b_MO_end b_MO_token b_MO_bank b_MO_rb b_MO_codes b_MO_within b_MO_piled b_MO_unitsInRule b_MO_askThing b_MO_acts b_MO_undone b_MO_laid b_MO_heards b_MO_time s_MO_rooms_0) (cwV 1 hts gX12_echo_X12_isRoom rfl rfl rfl (by decide +kernel) ⟨Nat.le_of_ble_eq_true rfl, Nat.le_of_ble_eq_true rfl⟩) ⟨xr_blind, va_recv hK hP (ci := 12) (q0 := 0) rfl rfl, fun U hU hW => xr_mk hU hW hPc hK⟩ rfl rfl hl.1 rfl (lv_room (Nat.le_of_ble_eq_true rfl)) dX12_echo_2 ⟨Nat.le_of_ble_eq_true rfl, Nat.le_of_ble_eq_true rfl⟩).run (fun r2 hr2 => ?_)
  obtain ⟨hr2, p2_p⟩ := hr2
  clear hPc
  rcases hr2 with rfl | ⟨rfl, hr2_1_0⟩
  · refine lv_if_eq (tgt := 18) hx hb dX12_echo_5 (by decide) (fun _ => ?_) (fun c5 => absurd (by decide) c5)
    refine lv_iconst (v := (-1)) hx hb dX12_echo_18 (by decide) ?_
    exact up _ _ _ (W.iret (v := (-1)) hx hb hr (fun t ht hW => ⟨(-1), rfl, trivial, ht⟩) (fun q hq => by cases hq) dX12_echo_19)
  · refine lv_if_eq (tgt := 18) hx hb dX12_echo_5 (by decide) (fun c5 => absurd c5 (by decide)) (fun _ => ?_)
    refine lv_iload_n hx hb dX12_echo_8 rfl (lv_at hl 2 rfl) ?_
    refine lv_iconst (v := 0) hx hb dX12_echo_9 (by decide) ?_
    refine lv_bipush (v := 8) hx hb dX12_echo_10 (by decide) ?_
    have hPc := hP.sub (ws' := []) [] rfl
    refine vp_callSi (va_runS (As := [.int x1, .int 0, .int 8]) (rest := []) ⟨hx, hb, hml, hown, hts⟩ (c_X12_isIn l D cI cB cL cZ cG x1 0 8) (va_cwS 3 hts gX12_echo_X12_isIn rfl rfl rfl (by decide +kernel) ⟨Nat.le_of_ble_eq_true rfl, Nat.le_of_ble_eq_true rfl⟩) ⟨xr_blind, fun U hU hW => xr_mk hU hW hPc hK⟩ rfl rfl hl.1 rfl (lv_room (Nat.le_of_ble_eq_true rfl)) dX12_echo_12 ⟨Nat.le_of_ble_eq_true rfl, Nat.le_of_ble_eq_true rfl⟩).run (fun r12 hr12 => ?_)
    clear hPc
    rcases hr12 with rfl | ⟨rfl, hr12_1_0, hr12_1_1⟩
    · refine lv_if_ne (tgt := 20) hx hb dX12_echo_15 (by decide) (fun c15 => absurd (by decide) c15) (fun _ => ?_)
      refine lv_iconst (v := (-1)) hx hb dX12_echo_18 (by decide) ?_
      exact up _ _ _ (W.iret (v := (-1)) hx hb hr (fun t ht hW => ⟨(-1), rfl, trivial, ht⟩) (fun q hq => by cases hq) dX12_echo_19)
    · have by15r0_x1 : zB x1 0 2147483647 := zB_lev hr12_1_0 (show zB 0 0 0 from ⟨by decide, by decide⟩) (zB_top x1) (by decide)
      have bx15r1_x1 : zB x1 0 8 := zB_leu hr12_1_1 by15r0_x1 (show zB 8 8 8 from ⟨by decide, by decide⟩) (by decide)
      refine lv_if_ne (tgt := 20) hx hb dX12_echo_15 (by decide) (fun _ => ?_) (fun c15 => absurd c15 (by decide))
      refine lv_iconst (v := 0) hx hb dX12_echo_20 (by decide) ?_
      refine lv_istore_n (lv' := [(3, .int 0), (0, .ref MO), (1, .int x0), (2, .int x1)]) hx hb dX12_echo_21 rfl hl (by decide) rfl (fun ls hl => ?_)
      refine lv_iconst (v := 0) hx hb dX12_echo_22 (by decide) ?_
      have j25 : ∀ (n25 : Nat) (ls : Array Slot) (v25_4 : Int32) (v25_3 : Int32), zB v25_4 0 8 → zA MO_rooms 0 2 0 8 → zA MO_table 0 64 0 10000 → zA MO_creaks 0 16 0 9 → (8 + 1 - v25_4.toInt) ≤ (n25 : Int) → lv_has ls 5 [(4, .int v25_4), (3, .int v25_3), (0, .ref MO), (1, .int x0), (2, .int x1)] → W p l e ({ frames := 2, cells := 0, slots := 0, locals := 43 } : Room) s m ([.ref MO, .int x0, .int x1] : List Value).toArray below meth c s.heap [] 0 0 Q (F0 m 25 ls []) := by
        intro n25
        induction n25 with
        | zero => intro ls v25_4 v25_3 bv25_4_k25 sMO_rooms_0_k25 sMO_table_0_k25 sMO_creaks_0_k25 hm25 hl; exact zM_u0 bv25_4_k25 hm25
        | succ n25 ih25 =>
          intro ls v25_4 v25_3 bv25_4_k25 sMO_rooms_0_k25 sMO_table_0_k25 sMO_creaks_0_k25 hm25 hl
          refine lv_iload hx hb dX12_echo_25 (lv_at hl 0 rfl) ?_
          refine lv_aload_n hx hb dX12_echo_27 rfl (lv_at hl 2 rfl) ?_
          have hPc := hP.sub (ws' := [(MO, .inr (12, oX12 aMO MO_taped MO_size MO_faultKind MO_faultPlace MO_at MO_end MO_token MO_number MO_name MO_bank MO_rb MO_codes MO_within MO_piled MO_unitsInRule MO_askThing MO_acts MO_undone MO_laid MO_heards MO_time)), ((aMO 11), .inl (cI, 2, .inl MO_rooms))]) [0, 1] rfl
          refine vp_callSi (va_runV (As := []) (rest := [.int v25_4]) ⟨hx, hb, hml, hown, hts⟩ (c_X12_places l D cI cB cL cZ cG MO aMO MO_taped MO_size MO_faultKind MO_faultPlace MO_at MO_end MO_token MO_number MO_name MO_bank MO_rb MO_codes MO_within MO_piled MO_unitsInRule MO_askThing MO_acts MO_undone MO_laid MO_heards MO_time MO_rooms b_MO_taped b_MO_size b_MO_faultKind b_MO_at b_MO_end b_MO_token b_MO_bank b_MO_rb b_MO_codes b_MO_within b_MO_piled b_MO_unitsInRule b_MO_askThing b_MO_acts b_MO_undone b_MO_laid b_MO_heards b_MO_time sMO_rooms_0_k25) (cwV 0 hts gX12_echo_X12_places rfl rfl rfl (by decide +kernel) ⟨Nat.le_of_ble_eq_true rfl, Nat.le_of_ble_eq_true rfl⟩) ⟨xr_blind, va_recv hK hP (ci := 12) (q0 := 0) rfl rfl, fun U hU hW => xr_mk hU hW hPc hK⟩ rfl rfl hl.1 rfl (lv_room (Nat.le_of_ble_eq_true rfl)) dX12_echo_28 ⟨Nat.le_of_ble_eq_true rfl, Nat.le_of_ble_eq_true rfl⟩).run (fun r28 hr28 => ?_)
          obtain ⟨hr28, p28_v, p28_i⟩ := hr28
          clear hPc
          refine lv_icmp_ge (tgt := 64) hx hb dX12_echo_31 (by decide) (fun c31 => ?_) (fun c31 => ?_)
          · refine lv_iload_n hx hb dX12_echo_64 rfl (lv_at hl 1 rfl) ?_
            exact up _ _ _ (W.iret (v := v25_3) hx hb hr (fun t ht hW => ⟨v25_3, rfl, trivial, ht⟩) (fun q hq => by cases hq) dX12_echo_65)
          · have bx31f_v25_4 : zB v25_4 0 7 := zB_ltu (zf c31) bv25_4_k25 hr28 (by decide)
            have by31f_r28 : zB r28 1 8 := zB_ltv (zf c31) bx31f_v25_4 hr28 (by decide)
            refine lv_iload_n hx hb dX12_echo_34 rfl (lv_at hl 1 rfl) ?_
            refine lv_aload_n hx hb dX12_echo_35 rfl (lv_at hl 2 rfl) ?_
            refine lv_iload_n hx hb dX12_echo_36 rfl (lv_at hl 3 rfl) ?_
            refine lv_iload hx hb dX12_echo_37 (lv_at hl 0 rfl) ?_
            have hPc := hP.sub (ws' := [(MO, .inr (12, oX12 aMO MO_taped MO_size MO_faultKind MO_faultPlace MO_at MO_end MO_token MO_number MO_name MO_bank MO_rb MO_codes MO_within MO_piled MO_unitsInRule MO_askThing MO_acts MO_undone MO_laid MO_heards MO_time)), ((aMO 43), .inl (cI, 64, .inl MO_table))]) [0, 2] rfl
            refine vp_callSi (va_runV (As := [.int x0, .int v25_4]) (rest := [.int v25_3]) ⟨hx, hb, hml, hown, hts⟩ (c_X12_farOf l D cI cB cL cZ cG MO x0 v25_4 aMO MO_taped MO_size MO_faultKind MO_faultPlace MO_at MO_end MO_token MO_number MO_name MO_bank MO_rb MO_codes MO_within MO_piled MO_unitsInRule MO_askThing MO_acts MO_undone MO_laid MO_heards MO_time MO_table hr2_1_0 bx31f_v25_4 b_MO_taped b_MO_size b_MO_faultKind b_MO_at b_MO_end b_MO_token b_MO_bank b_MO_rb b_MO_codes b_MO_within b_MO_piled b_MO_unitsInRule b_MO_askThing b_MO_acts b_MO_undone b_MO_laid b_MO_heards b_MO_time sMO_table_0_k25) (cwV 2 hts gX12_echo_X12_farOf rfl rfl rfl (by decide +kernel) ⟨Nat.le_of_ble_eq_true rfl, Nat.le_of_ble_eq_true rfl⟩) ⟨xr_blind, va_recv hK hP (ci := 12) (q0 := 0) rfl rfl, fun U hU hW => xr_mk hU hW hPc hK⟩ rfl rfl hl.1 rfl (lv_room (Nat.le_of_ble_eq_true rfl)) dX12_echo_39 ⟨Nat.le_of_ble_eq_true rfl, Nat.le_of_ble_eq_true rfl⟩).run (fun r39 hr39 => ?_)
            obtain ⟨hr39, p39_v⟩ := hr39
            clear hPc
            refine lv_iload_n hx hb dX12_echo_42 rfl (lv_at hl 4 rfl) ?_
            have j56 : ∀ (ls : Array Slot) (u56_0 : Int32), zB u56_0 0 9 → zA MO_rooms 0 2 0 8 → zA MO_table 0 64 0 10000 → zA MO_creaks 0 16 0 9 → lv_has ls 5 [(4, .int v25_4), (3, .int v25_3), (0, .ref MO), (1, .int x0), (2, .int x1)] → W p l e ({ frames := 2, cells := 0, slots := 0, locals := 43 } : Room) s m ([.ref MO, .int x0, .int x1] : List Value).toArray below meth c s.heap [] 0 0 Q (F0 m 56 ls [.int u56_0, .int v25_3]) := by
              intro ls u56_0 bu56_0_k56 sMO_rooms_0_k56 sMO_table_0_k56 sMO_creaks_0_k56 hl
              refine lv_iadd hx hb dX12_echo_56 ?_
              refine lv_topi (fun y56 _ => ?_)
              refine lv_istore_n (lv' := [(3, .int y56), (4, .int v25_4), (0, .ref MO), (1, .int x0), (2, .int x1)]) hx hb dX12_echo_57 rfl hl (by decide) rfl (fun ls hl => ?_)
              obtain ⟨y58, by58, ry58, ey58⟩ := zi_inc (x := v25_4) (k := 1) (a := 1) (b := 8) bx31f_v25_4 (by decide) (by decide) (by decide) (by decide) (by decide)
              refine lv_iinc (v := y58) (lv' := [(4, .int y58), (3, .int y56), (0, .ref MO), (1, .int x0), (2, .int x1)]) hx hb dX12_echo_58 hl (k := 1) rfl ey58 (by decide) rfl (fun ls hl => ?_)
              refine lv_goto (tgt := 25) hx hb dX12_echo_61 (by decide) ?_
              exact ih25 ls y58 y56 (zB_w by58 (by decide) (by decide)) sMO_rooms_0_k56 sMO_table_0_k56 sMO_creaks_0_k56 (zM_us (k := 1) hm25 ry58 (by decide)) (lv_sub hl [0, 1, 2, 3, 4] rfl)
            refine lv_icmp_gt (tgt := 55) hx hb dX12_echo_43 (by decide) (fun c43 => ?_) (fun c43 => ?_)
            · have by43t_r39 : zB r39 1 10000 := zB_ltv (zl c43) bx15r1_x1 hr39 (by decide)
              refine lv_iconst (v := 0) hx hb dX12_echo_55 (by decide) ?_
              exact j56 ls 0 (zB_w (show zB 0 0 0 from ⟨by decide, by decide⟩) (by decide) (by decide)) sMO_rooms_0_k25 sMO_table_0_k25 sMO_creaks_0_k25 (lv_sub hl [0, 1, 2, 3, 4] rfl)
            · have bx43f_r39 : zB r39 0 8 := zB_leu (zg c43) hr39 bx15r1_x1 (by decide)
              refine lv_aload_n hx hb dX12_echo_46 rfl (lv_at hl 2 rfl) ?_
              refine lv_iload hx hb dX12_echo_47 (lv_at hl 0 rfl) ?_
              have hPc := hP.sub (ws' := [(MO, .inr (12, oX12 aMO MO_taped MO_size MO_faultKind MO_faultPlace MO_at MO_end MO_token MO_number MO_name MO_bank MO_rb MO_codes MO_within MO_piled MO_unitsInRule MO_askThing MO_acts MO_undone MO_laid MO_heards MO_time)), ((aMO 16), .inl (cI, 16, .inl MO_creaks))]) [0, 3] rfl
              refine vp_callSi (va_runV (As := [.int v25_4]) (rest := [.int v25_3]) ⟨hx, hb, hml, hown, hts⟩ (c_X12_creakOf l D cI cB cL cZ cG MO v25_4 aMO MO_taped MO_size MO_faultKind MO_faultPlace MO_at MO_end MO_token MO_number MO_name MO_bank MO_rb MO_codes MO_within MO_piled MO_unitsInRule MO_askThing MO_acts MO_undone MO_laid MO_heards MO_time MO_creaks bx31f_v25_4 b_MO_taped b_MO_size b_MO_faultKind b_MO_at b_MO_end b_MO_token b_MO_bank b_MO_rb b_MO_codes b_MO_within b_MO_piled b_MO_unitsInRule b_MO_askThing b_MO_acts b_MO_undone b_MO_laid b_MO_heards b_MO_time sMO_creaks_0_k25) (cwV 1 hts gX12_echo_X12_creakOf rfl rfl rfl (by decide +kernel) ⟨Nat.le_of_ble_eq_true rfl, Nat.le_of_ble_eq_true rfl⟩) ⟨xr_blind, va_recv hK hP (ci := 12) (q0 := 0) rfl rfl, fun U hU hW => xr_mk hU hW hPc hK⟩ rfl rfl hl.1 rfl (lv_room (Nat.le_of_ble_eq_true rfl)) dX12_echo_49 ⟨Nat.le_of_ble_eq_true rfl, Nat.le_of_ble_eq_true rfl⟩).run (fun r49 hr49 => ?_)
              clear hPc
              refine lv_goto (tgt := 56) hx hb dX12_echo_52 (by decide) ?_
              exact j56 ls r49 hr49 sMO_rooms_0_k25 sMO_table_0_k25 sMO_creaks_0_k25 (lv_sub hl [0, 1, 2, 3, 4] rfl)
      refine lv_istore (lv' := [(4, .int 0), (3, .int 0), (0, .ref MO), (1, .int x0), (2, .int x1)]) hx hb dX12_echo_23 hl (by decide) rfl (fun ls hl => ?_)
      exact j25 9 ls 0 0 (zB_w (show zB 0 0 0 from ⟨by decide, by decide⟩) (by decide) (by decide)) s_MO_rooms_0 s_MO_table_0 s_MO_creaks_0 (zM_ui (show zB 0 0 0 from ⟨by decide, by decide⟩) (by decide)) (lv_sub hl [0, 1, 2, 3, 4] rfl)
set_option maxHeartbeats 4000000 in
set_option maxRecDepth 100000 in
theorem c_X12_mend (l : Launch) (D : va_G) (cI : ClassId) (cB : ClassId) (cL : ClassId) (cZ : ClassId) (cG : ClassId) (MO : Nat) (x0 : Int32) (aMO : Nat → Nat) (MO_taped : Int32) (MO_size : Int32) (MO_faultKind : Int32) (MO_faultPlace : Int32) (MO_at : Int32) (MO_end : Int32) (MO_token : Int32) (MO_number : Int32) (MO_name : Int64) (MO_bank : Int32) (MO_rb : Int32) (MO_codes : Int32) (MO_within : Int32) (MO_piled : Int32) (MO_unitsInRule : Int32) (MO_askThing : Int32) (MO_acts : Int32) (MO_undone : Int32) (MO_laid : Int32) (MO_heards : Int32) (MO_time : Int32) (MO_things : Nat → Int32) (MO_all : Nat → Int32) (MO_table : Nat → Int32) (b_MO_taped : zB MO_taped 0 1600) (b_MO_size : zB MO_size 0 1600) (b_MO_faultKind : zB MO_faultKind 0 5) (b_MO_at : zB MO_at 0 1600) (b_MO_end : zB MO_end 0 1600) (b_MO_token : zB MO_token 0 5) (b_MO_bank : zB MO_bank 0 1) (b_MO_rb : zB MO_rb 0 1) (b_MO_codes : zB MO_codes 0 1120) (b_MO_within : zB MO_within 0 7) (b_MO_piled : zB MO_piled 0 89) (b_MO_unitsInRule : zB MO_unitsInRule 0 30) (b_MO_askThing : zB MO_askThing 0 5) (b_MO_acts : zB MO_acts 0 40) (b_MO_undone : zB MO_undone 0 40) (b_MO_laid : zB MO_laid 0 8) (b_MO_heards : zB MO_heards 0 30) (b_MO_time : zB MO_time 0 100000) (s_MO_things_0 : zA MO_things 0 2 0 6) (s_MO_all_0 : zA MO_all 0 12 0 7) (s_MO_table_0 : zA MO_table 0 64 0 10000) : Met l yX12_mend wsX12_mend ({ frames := 1, cells := 0, slots := 0, locals := 22 }) (xr D [(cI, .int), (cB, .byte), (cL, .long), (cZ, .boolean), (cG, .array .int)] [(MO, .inr (12, oX12 aMO MO_taped MO_size MO_faultKind MO_faultPlace MO_at MO_end MO_token MO_number MO_name MO_bank MO_rb MO_codes MO_within MO_piled MO_unitsInRule MO_askThing MO_acts MO_undone MO_laid MO_heards MO_time)), ((aMO 13), .inl (cI, 2, .inl MO_things)), ((aMO 42), .inl (cI, 32, .inl MO_all)), ((aMO 43), .inl (cI, 64, .inl MO_table))] [.ref MO, .int x0]) (vp_Si (fun r => True)) 0 0 (fun _ => False) := by
  refine Met.ofW (cc := cX12_mend) (maxL := 6) (ret := (some .int)) (by decide) rfl ?_
  intro p e s m args below meth c s₁ B hml hv
  obtain ⟨rfl, hP, hK⟩ := hv
  have hx := B.exec
  have hb := B.bytes
  have hr := B.returns
  have hts := atoms_spec (ws := wsX12_mend) B.pre
  have hown : s.vm.findClass RX12 = some m.cls := findClass_of_methodNamed B.named
  have hlocks := B.notSynchronized
  clear B
  have hl := lv_entry ([.ref MO, .int x0]) (n := 6) (Nat.le_of_ble_eq_true rfl)
  rw [lg_entry_eq]
  generalize (lg_sl ([.ref MO, .int x0]) ++ List.replicate (6 - (lg_sl ([.ref MO, .int x0])).length) Slot.unset).toArray = ls at hl ⊢
  replace hl : lv_has ls 6 [(0, .ref MO), (1, .int x0)] := hl
  refine zz_abs (R := ({ frames := 1, cells := 0, slots := 0, locals := 22 } : Room)) (fun Q up => ?_)
  refine lv_iload_n hx hb dX12_mend_0 rfl (lv_at hl 1 rfl) ?_
  refine lv_iconst (v := 0) hx hb dX12_mend_1 (by decide) ?_
  refine lv_bipush (v := 99) hx hb dX12_mend_2 (by decide) ?_
  have hPc := hP.sub (ws' := []) [] rfl
  refine vp_callSi (va_runS (As := [.int x0, .int 0, .int 99]) (rest := []) ⟨hx, hb, hml, hown, hts⟩ (c_X12_isIn l D cI cB cL cZ cG x0 0 99) (va_cwS 3 hts gX12_mend_X12_isIn rfl rfl rfl (by decide +kernel) ⟨Nat.le_of_ble_eq_true rfl, Nat.le_of_ble_eq_true rfl⟩) ⟨xr_blind, fun U hU hW => xr_mk hU hW hPc hK⟩ rfl rfl hl.1 rfl (lv_room (Nat.le_of_ble_eq_true rfl)) dX12_mend_4 ⟨Nat.le_of_ble_eq_true rfl, Nat.le_of_ble_eq_true rfl⟩).run (fun r4 hr4 => ?_)
  clear hPc
  rcases hr4 with rfl | ⟨rfl, hr4_1_0, hr4_1_1⟩
  · refine lv_if_ne (tgt := 12) hx hb dX12_mend_7 (by decide) (fun c7 => absurd (by decide) c7) (fun _ => ?_)
    refine lv_iconst (v := (-1)) hx hb dX12_mend_10 (by decide) ?_
    exact up _ _ _ (W.iret (v := (-1)) hx hb hr (fun t ht hW => ⟨(-1), rfl, trivial, ht⟩) (fun q hq => by cases hq) dX12_mend_11)
  · have by7r0_x0 : zB x0 0 2147483647 := zB_lev hr4_1_0 (show zB 0 0 0 from ⟨by decide, by decide⟩) (zB_top x0) (by decide)
    have bx7r1_x0 : zB x0 0 99 := zB_leu hr4_1_1 by7r0_x0 (show zB 99 99 99 from ⟨by decide, by decide⟩) (by decide)
    refine lv_if_ne (tgt := 12) hx hb dX12_mend_7 (by decide) (fun _ => ?_) (fun c7 => absurd c7 (by decide))
    refine lv_iload_n hx hb dX12_mend_12 rfl (lv_at hl 1 rfl) ?_
    refine lv_istore_n (lv' := [(2, .int x0), (0, .ref MO), (1, .int x0)]) hx hb dX12_mend_13 rfl hl (by decide) rfl (fun ls hl => ?_)
    refine lv_iconst (v := 0) hx hb dX12_mend_14 (by decide) ?_
    refine lv_istore_n (lv' := [(3, .int 0), (2, .int x0), (0, .ref MO), (1, .int x0)]) hx hb dX12_mend_15 rfl hl (by decide) rfl (fun ls hl => ?_)
    refine lv_iconst (v := 0) hx hb dX12_mend_16 (by decide) ?_
    have j19 : ∀ (n19 : Nat) (ls : Array Slot) (v19_4 : Int32) (v19_3 : Int32) (v19_2 : Int32), zB v19_4 0 8 → zB v19_2 (-16) 99 → zA MO_things 0 2 0 6 → zA MO_all 0 12 0 7 → zA MO_table 0 64 0 10000 → (8 + 1 - v19_4.toInt) ≤ (n19 : Int) → lv_has ls 6 [(4, .int v19_4), (3, .int v19_3), (2, .int v19_2), (0, .ref MO), (1, .int x0)] → W p l e ({ frames := 1, cells := 0, slots := 0, locals := 22 } : Room) s m ([.ref MO, .int x0] : List Value).toArray below meth c s.heap [] 0 0 Q (F0 m 19 ls []) := by
      intro n19
      induction n19 with
      | zero => intro ls v19_4 v19_3 v19_2 bv19_4_k19 bv19_2_k19 sMO_things_0_k19 sMO_all_0_k19 sMO_table_0_k19 hm19 hl; exact zM_u0 bv19_4_k19 hm19
      | succ n19 ih19 =>
        intro ls v19_4 v19_3 v19_2 bv19_4_k19 bv19_2_k19 sMO_things_0_k19 sMO_all_0_k19 sMO_table_0_k19 hm19 hl
        refine lv_iload hx hb dX12_mend_19 (lv_at hl 0 rfl) ?_
        refine lv_bipush (v := 8) hx hb dX12_mend_21 (by decide) ?_
        refine lv_icmp_ge (tgt := 95) hx hb dX12_mend_23 (by decide) (fun c23 => ?_) (fun c23 => ?_)
        · have by23t_v19_4 : zB v19_4 8 8 := zB_lev (ze c23) (show zB 8 8 8 from ⟨by decide, by decide⟩) bv19_4_k19 (by decide)
          refine lv_iload_n hx hb dX12_mend_95 rfl (lv_at hl 1 rfl) ?_
          exact up _ _ _ (W.iret (v := v19_3) hx hb hr (fun t ht hW => ⟨v19_3, rfl, trivial, ht⟩) (fun q hq => by cases hq) dX12_mend_96)
        · have bx23f_v19_4 : zB v19_4 0 7 := zB_ltu (zf c23) bv19_4_k19 (show zB 8 8 8 from ⟨by decide, by decide⟩) (by decide)
          refine lv_iconst (v := 0) hx hb dX12_mend_26 (by decide) ?_
          have j29 : ∀ (n29 : Nat) (ls : Array Slot) (v29_5 : Int32) (v29_3 : Int32) (v29_2 : Int32), zB v29_5 0 6 → zB v29_2 (-16) 99 → zA MO_things 0 2 0 6 → zA MO_all 0 12 0 7 → zA MO_table 0 64 0 10000 → (6 + 1 - v29_5.toInt) ≤ (n29 : Int) → lv_has ls 6 [(5, .int v29_5), (4, .int v19_4), (3, .int v29_3), (2, .int v29_2), (0, .ref MO), (1, .int x0)] → W p l e ({ frames := 1, cells := 0, slots := 0, locals := 22 } : Room) s m ([.ref MO, .int x0] : List Value).toArray below meth c s.heap [] 0 0 Q (F0 m 29 ls []) := by
            intro n29
            induction n29 with
            | zero => intro ls v29_5 v29_3 v29_2 bv29_5_k29 bv29_2_k29 sMO_things_0_k29 sMO_all_0_k29 sMO_table_0_k29 hm29 hl; exact zM_u0 bv29_5_k29 hm29
            | succ n29 ih29 =>
              intro ls v29_5 v29_3 v29_2 bv29_5_k29 bv29_2_k29 sMO_things_0_k29 sMO_all_0_k29 sMO_table_0_k29 hm29 hl
              refine lv_iload hx hb dX12_mend_29 (lv_at hl 0 rfl) ?_
              refine lv_aload_n hx hb dX12_mend_31 rfl (lv_at hl 4 rfl) ?_
              have hPc := hP.sub (ws' := [(MO, .inr (12, oX12 aMO MO_taped MO_size MO_faultKind MO_faultPlace MO_at MO_end MO_token MO_number MO_name MO_bank MO_rb MO_codes MO_within MO_piled MO_unitsInRule MO_askThing MO_acts MO_undone MO_laid MO_heards MO_time)), ((aMO 13), .inl (cI, 2, .inl MO_things))]) [0, 1] rfl
              refine vp_callSi (va_runV (As := []) (rest := [.int v29_5]) ⟨hx, hb, hml, hown, hts⟩ (c_X12_many l D cI cB cL cZ cG MO aMO MO_taped MO_size MO_faultKind MO_faultPlace MO_at MO_end MO_token MO_number MO_name MO_bank MO_rb MO_codes MO_within MO_piled MO_unitsInRule MO_askThing MO_acts MO_undone MO_laid MO_heards MO_time MO_things b_MO_taped b_MO_size b_MO_faultKind b_MO_at b_MO_end b_MO_token b_MO_bank b_MO_rb b_MO_codes b_MO_within b_MO_piled b_MO_unitsInRule b_MO_askThing b_MO_acts b_MO_undone b_MO_laid b_MO_heards b_MO_time sMO_things_0_k29) (cwV 0 hts gX12_mend_X12_many rfl rfl rfl (by decide +kernel) ⟨Nat.le_of_ble_eq_true rfl, Nat.le_of_ble_eq_true rfl⟩) ⟨xr_blind, va_recv hK hP (ci := 12) (q0 := 0) rfl rfl, fun U hU hW => xr_mk hU hW hPc hK⟩ rfl rfl hl.1 rfl (lv_room (Nat.le_of_ble_eq_true rfl)) dX12_mend_32 ⟨Nat.le_of_ble_eq_true rfl, Nat.le_of_ble_eq_true rfl⟩).run (fun r32 hr32 => ?_)
              obtain ⟨hr32, p32_v, p32_i⟩ := hr32
              clear hPc
              refine lv_icmp_ge (tgt := 89) hx hb dX12_mend_35 (by decide) (fun c35 => ?_) (fun c35 => ?_)
              · obtain ⟨y89, by89, ry89, ey89⟩ := zi_inc (x := v19_4) (k := 1) (a := 1) (b := 8) bx23f_v19_4 (by decide) (by decide) (by decide) (by decide) (by decide)
                refine lv_iinc (v := y89) (lv' := [(4, .int y89), (5, .int v29_5), (3, .int v29_3), (2, .int v29_2), (0, .ref MO), (1, .int x0)]) hx hb dX12_mend_89 hl (k := 1) rfl ey89 (by decide) rfl (fun ls hl => ?_)
                refine lv_goto (tgt := 19) hx hb dX12_mend_92 (by decide) ?_
                exact ih19 ls y89 v29_3 v29_2 (zB_w by89 (by decide) (by decide)) bv29_2_k29 sMO_things_0_k29 sMO_all_0_k29 sMO_table_0_k29 (zM_us (k := 1) hm19 ry89 (by decide)) (lv_sub hl [0, 2, 3, 4, 5] rfl)
              · have bx35f_v29_5 : zB v29_5 0 5 := zB_ltu (zf c35) bv29_5_k29 hr32 (by decide)
                have by35f_r32 : zB r32 1 6 := zB_ltv (zf c35) bx35f_v29_5 hr32 (by decide)
                refine lv_aload_n hx hb dX12_mend_38 rfl (lv_at hl 4 rfl) ?_
                refine lv_aload_n hx hb dX12_mend_39 rfl (lv_at hl 4 rfl) ?_
                refine va_get (D := D) (ci := 12) (v := .ref (aMO 42)) (C := RX12) (T := TX12) (N := 71) hx hb hts iw_X12_mend_X12 hown hK hP 0 rfl rfl 42 (by decide) (hts (.fieldLink RX12 95 "SoldHouseModel" "all" "[I") (List.mem_of_getElem? (i := 1) rfl)) (fun _ h9 => h9) rfl dX12_mend_40 ?_
                refine lv_iconst (v := 0) hx hb dX12_mend_43 (by decide) ?_
                refine lv_iload hx hb dX12_mend_44 (lv_at hl 0 rfl) ?_
                refine lv_iadd hx hb dX12_mend_46 ?_
                refine zi_top (a := 0) (b := 5) (zB_add (show zB 0 0 0 from ⟨by decide, by decide⟩) bx35f_v29_5 (by decide) (by decide) (by decide) (by decide)) (fun y46 by46 => ?_)
                refine va_iald hx hb hK hP 2 0 rfl rfl (zB_in by46 (by decide) (by decide)) dX12_mend_47 ?_
                refine zi_top (a := 0) (b := 7) (zA_at sMO_all_0_k29 by46 (by decide) (by decide)) (fun y47 by47 => ?_)
                refine lv_aload_n hx hb dX12_mend_48 rfl (lv_at hl 4 rfl) ?_
                refine va_get (D := D) (ci := 12) (v := .ref (aMO 42)) (C := RX12) (T := TX12) (N := 71) hx hb hts iw_X12_mend_X12 hown hK hP 0 rfl rfl 42 (by decide) (hts (.fieldLink RX12 95 "SoldHouseModel" "all" "[I") (List.mem_of_getElem? (i := 1) rfl)) (fun _ h9 => h9) rfl dX12_mend_49 ?_
                refine lv_bipush (v := 6) hx hb dX12_mend_52 (by decide) ?_
                refine lv_iload hx hb dX12_mend_54 (lv_at hl 0 rfl) ?_
                refine lv_iadd hx hb dX12_mend_56 ?_
                refine zi_top (a := 6) (b := 11) (zB_add (show zB 6 6 6 from ⟨by decide, by decide⟩) bx35f_v29_5 (by decide) (by decide) (by decide) (by decide)) (fun y56 by56 => ?_)
                refine va_iald hx hb hK hP 2 0 rfl rfl (zB_in by56 (by decide) (by decide)) dX12_mend_57 ?_
                refine zi_top (a := 0) (b := 7) (zA_at sMO_all_0_k29 by56 (by decide) (by decide)) (fun y57 by57 => ?_)
                have hPc := hP.sub (ws' := [(MO, .inr (12, oX12 aMO MO_taped MO_size MO_faultKind MO_faultPlace MO_at MO_end MO_token MO_number MO_name MO_bank MO_rb MO_codes MO_within MO_piled MO_unitsInRule MO_askThing MO_acts MO_undone MO_laid MO_heards MO_time)), ((aMO 43), .inl (cI, 64, .inl MO_table))]) [0, 3] rfl
                refine vp_callSi (va_runV (As := [.int y47, .int y57]) (rest := []) ⟨hx, hb, hml, hown, hts⟩ (c_X12_farOf l D cI cB cL cZ cG MO y47 y57 aMO MO_taped MO_size MO_faultKind MO_faultPlace MO_at MO_end MO_token MO_number MO_name MO_bank MO_rb MO_codes MO_within MO_piled MO_unitsInRule MO_askThing MO_acts MO_undone MO_laid MO_heards MO_time MO_table by47 by57 b_MO_taped b_MO_size b_MO_faultKind b_MO_at b_MO_end b_MO_token b_MO_bank b_MO_rb b_MO_codes b_MO_within b_MO_piled b_MO_unitsInRule b_MO_askThing b_MO_acts b_MO_undone b_MO_laid b_MO_heards b_MO_time sMO_table_0_k29) (cwV 2 hts gX12_mend_X12_farOf rfl rfl rfl (by decide +kernel) ⟨Nat.le_of_ble_eq_true rfl, Nat.le_of_ble_eq_true rfl⟩) ⟨xr_blind, va_recv hK hP (ci := 12) (q0 := 0) rfl rfl, fun U hU hW => xr_mk hU hW hPc hK⟩ rfl rfl hl.1 rfl (lv_room (Nat.le_of_ble_eq_true rfl)) dX12_mend_58 ⟨Nat.le_of_ble_eq_true rfl, Nat.le_of_ble_eq_true rfl⟩).run (fun r58 hr58 => ?_)
                obtain ⟨hr58, p58_v⟩ := hr58
                clear hPc
                refine lv_iload hx hb dX12_mend_61 (lv_at hl 1 rfl) ?_
                have j83 : ∀ (ls : Array Slot) (v83_3 : Int32) (v83_2 : Int32), zB v83_2 (-16) 99 → zA MO_things 0 2 0 6 → zA MO_all 0 12 0 7 → zA MO_table 0 64 0 10000 → lv_has ls 6 [(5, .int v29_5), (4, .int v19_4), (3, .int v83_3), (2, .int v83_2), (0, .ref MO), (1, .int x0)] → W p l e ({ frames := 1, cells := 0, slots := 0, locals := 22 } : Room) s m ([.ref MO, .int x0] : List Value).toArray below meth c s.heap [] 0 0 Q (F0 m 83 ls []) := by
                  intro ls v83_3 v83_2 bv83_2_k83 sMO_things_0_k83 sMO_all_0_k83 sMO_table_0_k83 hl
                  obtain ⟨y83, by83, ry83, ey83⟩ := zi_inc (x := v29_5) (k := 1) (a := 1) (b := 6) bx35f_v29_5 (by decide) (by decide) (by decide) (by decide) (by decide)
                  refine lv_iinc (v := y83) (lv' := [(5, .int y83), (4, .int v19_4), (3, .int v83_3), (2, .int v83_2), (0, .ref MO), (1, .int x0)]) hx hb dX12_mend_83 hl (k := 0) rfl ey83 (by decide) rfl (fun ls hl => ?_)
                  refine lv_goto (tgt := 29) hx hb dX12_mend_86 (by decide) ?_
                  exact ih29 ls y83 v83_3 v83_2 (zB_w by83 (by decide) (by decide)) bv83_2_k83 sMO_things_0_k83 sMO_all_0_k83 sMO_table_0_k83 (zM_us (k := 1) hm29 ry83 (by decide)) (lv_sub hl [0, 1, 2, 3, 4, 5] rfl)
                refine lv_icmp_ne (tgt := 83) hx hb dX12_mend_63 (by decide) (fun c63 => ?_) (fun c63 => ?_)
                · exact j83 ls v29_3 v29_2 bv29_2_k29 sMO_things_0_k29 sMO_all_0_k29 sMO_table_0_k29 (lv_sub hl [0, 1, 2, 3, 4, 5] rfl)
                · have be63f_r58 : zB r58 0 7 := zB_eq c63 hr58 bx23f_v19_4 (by decide) (by decide)
                  refine lv_iload hx hb dX12_mend_66 (lv_at hl 1 rfl) ?_
                  refine lv_iload_n hx hb dX12_mend_68 rfl (lv_at hl 3 rfl) ?_
                  refine lv_icmp_le (tgt := 75) hx hb dX12_mend_69 (by decide) (fun c69 => ?_) (fun c69 => ?_)
                  · have by69t_v29_2 : zB v29_2 0 99 := zB_lev (ze c69) bx23f_v19_4 bv29_2_k29 (by decide)
                    refine lv_iload_n hx hb dX12_mend_75 rfl (lv_at hl 3 rfl) ?_
                    refine lv_iload hx hb dX12_mend_76 (lv_at hl 1 rfl) ?_
                    refine lv_isub hx hb dX12_mend_78 ?_
                    refine zi_top (a := (-7)) (b := 99) (zB_sub by69t_v29_2 bx23f_v19_4 (by decide) (by decide) (by decide) (by decide)) (fun y78 by78 => ?_)
                    refine lv_istore_n (lv' := [(2, .int y78), (5, .int v29_5), (4, .int v19_4), (3, .int v29_3), (0, .ref MO), (1, .int x0)]) hx hb dX12_mend_79 rfl hl (by decide) rfl (fun ls hl => ?_)
                    obtain ⟨y80, ey80⟩ : ∃ y : Int32, v29_3 + Int32.ofInt 1 = y := ⟨_, rfl⟩
                    refine lv_iinc (v := y80) (lv' := [(3, .int y80), (2, .int y78), (5, .int v29_5), (4, .int v19_4), (0, .ref MO), (1, .int x0)]) hx hb dX12_mend_80 hl (k := 3) rfl ey80 (by decide) rfl (fun ls hl => ?_)
                    exact j83 ls y80 y78 (zB_w by78 (by decide) (by decide)) sMO_things_0_k29 sMO_all_0_k29 sMO_table_0_k29 (lv_sub hl [2, 3, 0, 1, 4, 5] rfl)
                  · have bx69f_v29_2 : zB v29_2 (-16) 6 := zB_ltu (zf c69) bv29_2_k29 bx23f_v19_4 (by decide)
                    refine lv_goto (tgt := 83) hx hb dX12_mend_72 (by decide) ?_
                    exact j83 ls v29_3 v29_2 (zB_w bx69f_v29_2 (by decide) (by decide)) sMO_things_0_k29 sMO_all_0_k29 sMO_table_0_k29 (lv_sub hl [0, 1, 2, 3, 4, 5] rfl)
          refine lv_istore (lv' := [(5, .int 0), (4, .int v19_4), (3, .int v19_3), (2, .int v19_2), (0, .ref MO), (1, .int x0)]) hx hb dX12_mend_27 hl (by decide) rfl (fun ls hl => ?_)
          exact j29 7 ls 0 v19_3 v19_2 (zB_w (show zB 0 0 0 from ⟨by decide, by decide⟩) (by decide) (by decide)) bv19_2_k19 sMO_things_0_k19 sMO_all_0_k19 sMO_table_0_k19 (zM_ui (show zB 0 0 0 from ⟨by decide, by decide⟩) (by decide)) (lv_sub hl [0, 1, 2, 3, 4, 5] rfl)
    refine lv_istore (lv' := [(4, .int 0), (3, .int 0), (2, .int x0), (0, .ref MO), (1, .int x0)]) hx hb dX12_mend_17 hl (by decide) rfl (fun ls hl => ?_)
    exact j19 9 ls 0 0 x0 (zB_w (show zB 0 0 0 from ⟨by decide, by decide⟩) (by decide) (by decide)) (zB_w bx7r1_x0 (by decide) (by decide)) s_MO_things_0 s_MO_all_0 s_MO_table_0 (zM_ui (show zB 0 0 0 from ⟨by decide, by decide⟩) (by decide)) (lv_sub hl [0, 1, 2, 3, 4] rfl)
set_option maxHeartbeats 4000000 in
set_option maxRecDepth 100000 in
theorem c_X12_worthOf (l : Launch) (D : va_G) (cI : ClassId) (cB : ClassId) (cL : ClassId) (cZ : ClassId) (cG : ClassId) (MO : Nat) (x0 : Int32) (x1 : Int32) (aMO : Nat → Nat) (MO_taped : Int32) (MO_size : Int32) (MO_faultKind : Int32) (MO_faultPlace : Int32) (MO_at : Int32) (MO_end : Int32) (MO_token : Int32) (MO_number : Int32) (MO_name : Int64) (MO_bank : Int32) (MO_rb : Int32) (MO_codes : Int32) (MO_within : Int32) (MO_piled : Int32) (MO_unitsInRule : Int32) (MO_askThing : Int32) (MO_acts : Int32) (MO_undone : Int32) (MO_laid : Int32) (MO_heards : Int32) (MO_time : Int32) (MO_toThem : Nat → Int32) (MO_toUs : Nat → Int32) (b_x0 : zB x0 0 5) (b_MO_taped : zB MO_taped 0 1600) (b_MO_size : zB MO_size 0 1600) (b_MO_faultKind : zB MO_faultKind 0 5) (b_MO_at : zB MO_at 0 1600) (b_MO_end : zB MO_end 0 1600) (b_MO_token : zB MO_token 0 5) (b_MO_bank : zB MO_bank 0 1) (b_MO_rb : zB MO_rb 0 1) (b_MO_codes : zB MO_codes 0 1120) (b_MO_within : zB MO_within 0 7) (b_MO_piled : zB MO_piled 0 89) (b_MO_unitsInRule : zB MO_unitsInRule 0 30) (b_MO_askThing : zB MO_askThing 0 5) (b_MO_acts : zB MO_acts 0 40) (b_MO_undone : zB MO_undone 0 40) (b_MO_laid : zB MO_laid 0 8) (b_MO_heards : zB MO_heards 0 30) (b_MO_time : zB MO_time 0 100000) : Met l yX12_worthOf wsX12_worthOf ({ frames := 0, cells := 0, slots := 0, locals := 0 }) (xr D [(cI, .int), (cB, .byte), (cL, .long), (cZ, .boolean), (cG, .array .int)] [(MO, .inr (12, oX12 aMO MO_taped MO_size MO_faultKind MO_faultPlace MO_at MO_end MO_token MO_number MO_name MO_bank MO_rb MO_codes MO_within MO_piled MO_unitsInRule MO_askThing MO_acts MO_undone MO_laid MO_heards MO_time)), ((aMO 23), .inl (cI, 12, .inl MO_toThem)), ((aMO 22), .inl (cI, 12, .inl MO_toUs))] [.ref MO, .int x0, .int x1]) (vp_Si (fun r => True)) 0 0 (fun _ => False) := by
  refine Met.ofW (cc := cX12_worthOf) (maxL := 3) (ret := (some .int)) (by decide) rfl ?_
  intro p e s m args below meth c s₁ B hml hv
  obtain ⟨rfl, hP, hK⟩ := hv
  have hx := B.exec
  have hb := B.bytes
  have hr := B.returns
  have hts := atoms_spec (ws := wsX12_worthOf) B.pre
  have hown : s.vm.findClass RX12 = some m.cls := findClass_of_methodNamed B.named
  have hlocks := B.notSynchronized
  clear B
  have hl := lv_entry ([.ref MO, .int x0, .int x1]) (n := 3) (Nat.le_of_ble_eq_true rfl)
  rw [lg_entry_eq]
  generalize (lg_sl ([.ref MO, .int x0, .int x1]) ++ List.replicate (3 - (lg_sl ([.ref MO, .int x0, .int x1])).length) Slot.unset).toArray = ls at hl ⊢
  replace hl : lv_has ls 3 [(0, .ref MO), (1, .int x0), (2, .int x1)] := hl
  refine lv_iload_n hx hb dX12_worthOf_0 rfl (lv_at hl 2 rfl) ?_
  refine lv_if_ne (tgt := 21) hx hb dX12_worthOf_1 (by decide) (fun c1 => ?_) (fun c1 => ?_)
  · refine lv_aload_n hx hb dX12_worthOf_21 rfl (lv_at hl 0 rfl) ?_
    refine va_get (D := D) (ci := 12) (v := .ref (aMO 23)) (C := RX12) (T := TX12) (N := 71) hx hb hts iw_X12_worthOf_X12 hown hK hP 0 rfl rfl 23 (by decide) (hts (.fieldLink RX12 57 "SoldHouseModel" "toThem" "[I") (List.mem_of_getElem? (i := 3) rfl)) (fun _ h9 => h9) rfl dX12_worthOf_22 ?_
    refine lv_bipush (v := 6) hx hb dX12_worthOf_25 (by decide) ?_
    refine lv_aload_n hx hb dX12_worthOf_27 rfl (lv_at hl 0 rfl) ?_
    refine va_get (D := D) (ci := 12) (v := .int MO_bank) (C := RX12) (T := TX12) (N := 71) hx hb hts iw_X12_worthOf_X12 hown hK hP 0 rfl rfl 35 (by decide) (hts (.fieldLink RX12 280 "SoldHouseModel" "bank" "I") (List.mem_of_getElem? (i := 2) rfl)) (fun _ h9 => h9) rfl dX12_worthOf_28 ?_
    refine lv_imul hx hb dX12_worthOf_31 ?_
    refine zi_top (a := 0) (b := 6) (zB_mul (show zB 6 6 6 from ⟨by decide, by decide⟩) b_MO_bank (by decide) (by decide) (by decide) (by decide) (by decide)) (fun y31 by31 => ?_)
    refine lv_iload_n hx hb dX12_worthOf_32 rfl (lv_at hl 1 rfl) ?_
    refine lv_iadd hx hb dX12_worthOf_33 ?_
    refine zi_top (a := 0) (b := 11) (zB_add by31 b_x0 (by decide) (by decide) (by decide) (by decide)) (fun y33 by33 => ?_)
    refine va_iald hx hb hK hP 1 0 rfl rfl (zB_in by33 (by decide) (by decide)) dX12_worthOf_34 ?_
    refine lv_topi (fun y34 _ => ?_)
    exact W.iret (v := y34) hx hb hr (fun t ht hW => ⟨y34, rfl, trivial, ht⟩) (fun q hq => by cases hq) dX12_worthOf_35
  · have be1f_x1 : zB x1 0 0 := zB_eq c1 (zB_top x1) (show zB 0 0 0 from ⟨by decide, by decide⟩) (by decide) (by decide)
    refine lv_aload_n hx hb dX12_worthOf_4 rfl (lv_at hl 0 rfl) ?_
    refine va_get (D := D) (ci := 12) (v := .ref (aMO 22)) (C := RX12) (T := TX12) (N := 71) hx hb hts iw_X12_worthOf_X12 hown hK hP 0 rfl rfl 22 (by decide) (hts (.fieldLink RX12 54 "SoldHouseModel" "toUs" "[I") (List.mem_of_getElem? (i := 1) rfl)) (fun _ h9 => h9) rfl dX12_worthOf_5 ?_
    refine lv_bipush (v := 6) hx hb dX12_worthOf_8 (by decide) ?_
    refine lv_aload_n hx hb dX12_worthOf_10 rfl (lv_at hl 0 rfl) ?_
    refine va_get (D := D) (ci := 12) (v := .int MO_bank) (C := RX12) (T := TX12) (N := 71) hx hb hts iw_X12_worthOf_X12 hown hK hP 0 rfl rfl 35 (by decide) (hts (.fieldLink RX12 280 "SoldHouseModel" "bank" "I") (List.mem_of_getElem? (i := 2) rfl)) (fun _ h9 => h9) rfl dX12_worthOf_11 ?_
    refine lv_imul hx hb dX12_worthOf_14 ?_
    refine zi_top (a := 0) (b := 6) (zB_mul (show zB 6 6 6 from ⟨by decide, by decide⟩) b_MO_bank (by decide) (by decide) (by decide) (by decide) (by decide)) (fun y14 by14 => ?_)
    refine lv_iload_n hx hb dX12_worthOf_15 rfl (lv_at hl 1 rfl) ?_
    refine lv_iadd hx hb dX12_worthOf_16 ?_
    refine zi_top (a := 0) (b := 11) (zB_add by14 b_x0 (by decide) (by decide) (by decide) (by decide)) (fun y16 by16 => ?_)
    refine va_iald hx hb hK hP 2 0 rfl rfl (zB_in by16 (by decide) (by decide)) dX12_worthOf_17 ?_
    refine lv_topi (fun y17 _ => ?_)
    refine lv_goto (tgt := 35) hx hb dX12_worthOf_18 (by decide) ?_
    exact W.iret (v := y17) hx hb hr (fun t ht hW => ⟨y17, rfl, trivial, ht⟩) (fun q hq => by cases hq) dX12_worthOf_35
set_option maxHeartbeats 4000000 in
set_option maxRecDepth 100000 in
theorem c_X12_regret (l : Launch) (D : va_G) (cI : ClassId) (cB : ClassId) (cL : ClassId) (cZ : ClassId) (cG : ClassId) (MO : Nat) (aMO : Nat → Nat) (MO_taped : Int32) (MO_size : Int32) (MO_faultKind : Int32) (MO_faultPlace : Int32) (MO_at : Int32) (MO_end : Int32) (MO_token : Int32) (MO_number : Int32) (MO_name : Int64) (MO_bank : Int32) (MO_rb : Int32) (MO_codes : Int32) (MO_within : Int32) (MO_piled : Int32) (MO_unitsInRule : Int32) (MO_askThing : Int32) (MO_acts : Int32) (MO_undone : Int32) (MO_laid : Int32) (MO_heards : Int32) (MO_time : Int32) (MO_things : Nat → Int32) (MO_all : Nat → Int32) (MO_toThem : Nat → Int32) (MO_toUs : Nat → Int32) (b_MO_taped : zB MO_taped 0 1600) (b_MO_size : zB MO_size 0 1600) (b_MO_faultKind : zB MO_faultKind 0 5) (b_MO_at : zB MO_at 0 1600) (b_MO_end : zB MO_end 0 1600) (b_MO_token : zB MO_token 0 5) (b_MO_bank : zB MO_bank 0 1) (b_MO_rb : zB MO_rb 0 1) (b_MO_codes : zB MO_codes 0 1120) (b_MO_within : zB MO_within 0 7) (b_MO_piled : zB MO_piled 0 89) (b_MO_unitsInRule : zB MO_unitsInRule 0 30) (b_MO_askThing : zB MO_askThing 0 5) (b_MO_acts : zB MO_acts 0 40) (b_MO_undone : zB MO_undone 0 40) (b_MO_laid : zB MO_laid 0 8) (b_MO_heards : zB MO_heards 0 30) (b_MO_time : zB MO_time 0 100000) (s_MO_things_0 : zA MO_things 0 2 0 6) (s_MO_all_0 : zA MO_all 0 12 0 7) : Met l yX12_regret wsX12_regret ({ frames := 1, cells := 0, slots := 0, locals := 22 }) (xr D [(cI, .int), (cB, .byte), (cL, .long), (cZ, .boolean), (cG, .array .int)] [(MO, .inr (12, oX12 aMO MO_taped MO_size MO_faultKind MO_faultPlace MO_at MO_end MO_token MO_number MO_name MO_bank MO_rb MO_codes MO_within MO_piled MO_unitsInRule MO_askThing MO_acts MO_undone MO_laid MO_heards MO_time)), ((aMO 13), .inl (cI, 2, .inl MO_things)), ((aMO 42), .inl (cI, 32, .inl MO_all)), ((aMO 23), .inl (cI, 12, .inl MO_toThem)), ((aMO 22), .inl (cI, 12, .inl MO_toUs))] [.ref MO]) (vp_Si (fun r => zB r 0 63)) 0 0 (fun _ => False) := by
  refine Met.ofW (cc := cX12_regret) (maxL := 3) (ret := (some .int)) (by decide) rfl ?_
  intro p e s m args below meth c s₁ B hml hv
  obtain ⟨rfl, hP, hK⟩ := hv
  have hx := B.exec
  have hb := B.bytes
  have hr := B.returns
  have hts := atoms_spec (ws := wsX12_regret) B.pre
  have hown : s.vm.findClass RX12 = some m.cls := findClass_of_methodNamed B.named
  have hlocks := B.notSynchronized
  clear B
  have hl := lv_entry ([.ref MO]) (n := 3) (Nat.le_of_ble_eq_true rfl)
  rw [lg_entry_eq]
  generalize (lg_sl ([.ref MO]) ++ List.replicate (3 - (lg_sl ([.ref MO])).length) Slot.unset).toArray = ls at hl ⊢
  replace hl : lv_has ls 3 [(0, .ref MO)] := hl
  refine zz_abs (R := ({ frames := 1, cells := 0, slots := 0, locals := 22 } : Room)) (fun Q up => ?_)
  refine lv_iconst (v := 0) hx hb dX12_regret_0 (by decide) ?_
  refine lv_istore_n (lv' := [(1, .int 0), (0, .ref MO)]) hx hb dX12_regret_1 rfl hl (by decide) rfl (fun ls hl => ?_)
  refine lv_iconst (v := 0) hx hb dX12_regret_2 (by decide) ?_
  have j4 : ∀ (n4 : Nat) (ls : Array Slot) (v4_2 : Int32) (v4_1 : Int32), zB v4_2 0 6 → zB v4_1 0 63 → zA MO_things 0 2 0 6 → zA MO_all 0 12 0 7 → (6 + 1 - v4_2.toInt) ≤ (n4 : Int) → lv_has ls 3 [(2, .int v4_2), (1, .int v4_1), (0, .ref MO)] → W p l e ({ frames := 1, cells := 0, slots := 0, locals := 22 } : Room) s m ([.ref MO] : List Value).toArray below meth c s.heap [] 0 0 Q (F0 m 4 ls []) := by
    intro n4
    induction n4 with
    | zero => intro ls v4_2 v4_1 bv4_2_k4 bv4_1_k4 sMO_things_0_k4 sMO_all_0_k4 hm4 hl; exact zM_u0 bv4_2_k4 hm4
    | succ n4 ih4 =>
      intro ls v4_2 v4_1 bv4_2_k4 bv4_1_k4 sMO_things_0_k4 sMO_all_0_k4 hm4 hl
      refine lv_iload_n hx hb dX12_regret_4 rfl (lv_at hl 0 rfl) ?_
      refine lv_aload_n hx hb dX12_regret_5 rfl (lv_at hl 2 rfl) ?_
      have hPc := hP.sub (ws' := [(MO, .inr (12, oX12 aMO MO_taped MO_size MO_faultKind MO_faultPlace MO_at MO_end MO_token MO_number MO_name MO_bank MO_rb MO_codes MO_within MO_piled MO_unitsInRule MO_askThing MO_acts MO_undone MO_laid MO_heards MO_time)), ((aMO 13), .inl (cI, 2, .inl MO_things))]) [0, 1] rfl
      refine vp_callSi (va_runV (As := []) (rest := [.int v4_2]) ⟨hx, hb, hml, hown, hts⟩ (c_X12_many l D cI cB cL cZ cG MO aMO MO_taped MO_size MO_faultKind MO_faultPlace MO_at MO_end MO_token MO_number MO_name MO_bank MO_rb MO_codes MO_within MO_piled MO_unitsInRule MO_askThing MO_acts MO_undone MO_laid MO_heards MO_time MO_things b_MO_taped b_MO_size b_MO_faultKind b_MO_at b_MO_end b_MO_token b_MO_bank b_MO_rb b_MO_codes b_MO_within b_MO_piled b_MO_unitsInRule b_MO_askThing b_MO_acts b_MO_undone b_MO_laid b_MO_heards b_MO_time sMO_things_0_k4) (cwV 0 hts gX12_regret_X12_many rfl rfl rfl (by decide +kernel) ⟨Nat.le_of_ble_eq_true rfl, Nat.le_of_ble_eq_true rfl⟩) ⟨xr_blind, va_recv hK hP (ci := 12) (q0 := 0) rfl rfl, fun U hU hW => xr_mk hU hW hPc hK⟩ rfl rfl hl.1 rfl (lv_room (Nat.le_of_ble_eq_true rfl)) dX12_regret_6 ⟨Nat.le_of_ble_eq_true rfl, Nat.le_of_ble_eq_true rfl⟩).run (fun r6 hr6 => ?_)
      obtain ⟨hr6, p6_v, p6_i⟩ := hr6
      clear hPc
      refine lv_icmp_ge (tgt := 57) hx hb dX12_regret_9 (by decide) (fun c9 => ?_) (fun c9 => ?_)
      · refine lv_iload_n hx hb dX12_regret_57 rfl (lv_at hl 1 rfl) ?_
        exact up _ _ _ (W.iret (v := v4_1) hx hb hr (fun t ht hW => ⟨v4_1, rfl, bv4_1_k4, ht⟩) (fun q hq => by cases hq) dX12_regret_58)
      · have bx9f_v4_2 : zB v4_2 0 5 := zB_ltu (zf c9) bv4_2_k4 hr6 (by decide)
        have by9f_r6 : zB r6 1 6 := zB_ltv (zf c9) bx9f_v4_2 hr6 (by decide)
        refine lv_aload_n hx hb dX12_regret_12 rfl (lv_at hl 2 rfl) ?_
        refine lv_iload_n hx hb dX12_regret_13 rfl (lv_at hl 0 rfl) ?_
        refine lv_aload_n hx hb dX12_regret_14 rfl (lv_at hl 2 rfl) ?_
        refine va_get (D := D) (ci := 12) (v := .ref (aMO 42)) (C := RX12) (T := TX12) (N := 71) hx hb hts iw_X12_regret_X12 hown hK hP 0 rfl rfl 42 (by decide) (hts (.fieldLink RX12 95 "SoldHouseModel" "all" "[I") (List.mem_of_getElem? (i := 1) rfl)) (fun _ h9 => h9) rfl dX12_regret_15 ?_
        refine lv_bipush (v := 12) hx hb dX12_regret_18 (by decide) ?_
        refine lv_iload_n hx hb dX12_regret_20 rfl (lv_at hl 0 rfl) ?_
        refine lv_iadd hx hb dX12_regret_21 ?_
        refine zi_top (a := 12) (b := 17) (zB_add (show zB 12 12 12 from ⟨by decide, by decide⟩) bx9f_v4_2 (by decide) (by decide) (by decide) (by decide)) (fun y21 by21 => ?_)
        refine va_iald hx hb hK hP 2 0 rfl rfl (zB_in by21 (by decide) (by decide)) dX12_regret_22 ?_
        refine lv_topi (fun y22 _ => ?_)
        have hPc := hP.sub (ws' := [(MO, .inr (12, oX12 aMO MO_taped MO_size MO_faultKind MO_faultPlace MO_at MO_end MO_token MO_number MO_name MO_bank MO_rb MO_codes MO_within MO_piled MO_unitsInRule MO_askThing MO_acts MO_undone MO_laid MO_heards MO_time)), ((aMO 23), .inl (cI, 12, .inl MO_toThem)), ((aMO 22), .inl (cI, 12, .inl MO_toUs))]) [0, 3, 4] rfl
        refine vp_callSi (va_runV (As := [.int v4_2, .int y22]) (rest := []) ⟨hx, hb, hml, hown, hts⟩ (c_X12_worthOf l D cI cB cL cZ cG MO v4_2 y22 aMO MO_taped MO_size MO_faultKind MO_faultPlace MO_at MO_end MO_token MO_number MO_name MO_bank MO_rb MO_codes MO_within MO_piled MO_unitsInRule MO_askThing MO_acts MO_undone MO_laid MO_heards MO_time MO_toThem MO_toUs bx9f_v4_2 b_MO_taped b_MO_size b_MO_faultKind b_MO_at b_MO_end b_MO_token b_MO_bank b_MO_rb b_MO_codes b_MO_within b_MO_piled b_MO_unitsInRule b_MO_askThing b_MO_acts b_MO_undone b_MO_laid b_MO_heards b_MO_time) (cwV 2 hts gX12_regret_X12_worthOf rfl rfl rfl (by decide +kernel) ⟨Nat.le_of_ble_eq_true rfl, Nat.le_of_ble_eq_true rfl⟩) ⟨xr_blind, va_recv hK hP (ci := 12) (q0 := 0) rfl rfl, fun U hU hW => xr_mk hU hW hPc hK⟩ rfl rfl hl.1 rfl (lv_room (Nat.le_of_ble_eq_true rfl)) dX12_regret_23 ⟨Nat.le_of_ble_eq_true rfl, Nat.le_of_ble_eq_true rfl⟩).run (fun r23 hr23 => ?_)
        clear hPc
        clear hr23
        refine lv_aload_n hx hb dX12_regret_26 rfl (lv_at hl 2 rfl) ?_
        refine lv_iload_n hx hb dX12_regret_27 rfl (lv_at hl 0 rfl) ?_
        refine lv_iconst (v := 1) hx hb dX12_regret_28 (by decide) ?_
        refine lv_aload_n hx hb dX12_regret_29 rfl (lv_at hl 2 rfl) ?_
        refine va_get (D := D) (ci := 12) (v := .ref (aMO 42)) (C := RX12) (T := TX12) (N := 71) hx hb hts iw_X12_regret_X12 hown hK hP 0 rfl rfl 42 (by decide) (hts (.fieldLink RX12 95 "SoldHouseModel" "all" "[I") (List.mem_of_getElem? (i := 1) rfl)) (fun _ h9 => h9) rfl dX12_regret_30 ?_
        refine lv_bipush (v := 12) hx hb dX12_regret_33 (by decide) ?_
        refine lv_iload_n hx hb dX12_regret_35 rfl (lv_at hl 0 rfl) ?_
        refine lv_iadd hx hb dX12_regret_36 ?_
        refine zi_top (a := 12) (b := 17) (zB_add (show zB 12 12 12 from ⟨by decide, by decide⟩) bx9f_v4_2 (by decide) (by decide) (by decide) (by decide)) (fun y36 by36 => ?_)
        refine va_iald hx hb hK hP 2 0 rfl rfl (zB_in by36 (by decide) (by decide)) dX12_regret_37 ?_
        refine lv_topi (fun y37 _ => ?_)
        refine lv_isub hx hb dX12_regret_38 ?_
        refine lv_topi (fun y38 _ => ?_)
        have hPc := hP.sub (ws' := [(MO, .inr (12, oX12 aMO MO_taped MO_size MO_faultKind MO_faultPlace MO_at MO_end MO_token MO_number MO_name MO_bank MO_rb MO_codes MO_within MO_piled MO_unitsInRule MO_askThing MO_acts MO_undone MO_laid MO_heards MO_time)), ((aMO 23), .inl (cI, 12, .inl MO_toThem)), ((aMO 22), .inl (cI, 12, .inl MO_toUs))]) [0, 3, 4] rfl
        refine vp_callSi (va_runV (As := [.int v4_2, .int y38]) (rest := [.int r23]) ⟨hx, hb, hml, hown, hts⟩ (c_X12_worthOf l D cI cB cL cZ cG MO v4_2 y38 aMO MO_taped MO_size MO_faultKind MO_faultPlace MO_at MO_end MO_token MO_number MO_name MO_bank MO_rb MO_codes MO_within MO_piled MO_unitsInRule MO_askThing MO_acts MO_undone MO_laid MO_heards MO_time MO_toThem MO_toUs bx9f_v4_2 b_MO_taped b_MO_size b_MO_faultKind b_MO_at b_MO_end b_MO_token b_MO_bank b_MO_rb b_MO_codes b_MO_within b_MO_piled b_MO_unitsInRule b_MO_askThing b_MO_acts b_MO_undone b_MO_laid b_MO_heards b_MO_time) (cwV 2 hts gX12_regret_X12_worthOf rfl rfl rfl (by decide +kernel) ⟨Nat.le_of_ble_eq_true rfl, Nat.le_of_ble_eq_true rfl⟩) ⟨xr_blind, va_recv hK hP (ci := 12) (q0 := 0) rfl rfl, fun U hU hW => xr_mk hU hW hPc hK⟩ rfl rfl hl.1 rfl (lv_room (Nat.le_of_ble_eq_true rfl)) dX12_regret_39 ⟨Nat.le_of_ble_eq_true rfl, Nat.le_of_ble_eq_true rfl⟩).run (fun r39 hr39 => ?_)
        clear hPc
        clear hr39
        have j51 : ∀ (ls : Array Slot) (v51_1 : Int32), zB v51_1 0 63 → zA MO_things 0 2 0 6 → zA MO_all 0 12 0 7 → lv_has ls 3 [(2, .int v4_2), (1, .int v51_1), (0, .ref MO)] → W p l e ({ frames := 1, cells := 0, slots := 0, locals := 22 } : Room) s m ([.ref MO] : List Value).toArray below meth c s.heap [] 0 0 Q (F0 m 51 ls []) := by
          intro ls v51_1 bv51_1_k51 sMO_things_0_k51 sMO_all_0_k51 hl
          obtain ⟨y51, by51, ry51, ey51⟩ := zi_inc (x := v4_2) (k := 1) (a := 1) (b := 6) bx9f_v4_2 (by decide) (by decide) (by decide) (by decide) (by decide)
          refine lv_iinc (v := y51) (lv' := [(2, .int y51), (1, .int v51_1), (0, .ref MO)]) hx hb dX12_regret_51 hl (k := 0) rfl ey51 (by decide) rfl (fun ls hl => ?_)
          refine lv_goto (tgt := 4) hx hb dX12_regret_54 (by decide) ?_
          exact ih4 ls y51 v51_1 (zB_w by51 (by decide) (by decide)) bv51_1_k51 sMO_things_0_k51 sMO_all_0_k51 (zM_us (k := 1) hm4 ry51 (by decide)) (lv_sub hl [0, 1, 2] rfl)
        refine lv_icmp_le (tgt := 51) hx hb dX12_regret_42 (by decide) (fun c42 => ?_) (fun c42 => ?_)
        · exact j51 ls v4_1 bv4_1_k4 sMO_things_0_k4 sMO_all_0_k4 (lv_sub hl [0, 1, 2] rfl)
        · have bx42f_r39 : zB r39 (-2147483648) 2147483646 := zB_ltu (zf c42) (zB_top r39) (zB_top r23) (by decide)
          have by42f_r23 : zB r23 (-2147483647) 2147483647 := zB_ltv (zf c42) bx42f_r39 (zB_top r23) (by decide)
          refine lv_iload_n hx hb dX12_regret_45 rfl (lv_at hl 1 rfl) ?_
          refine lv_iconst (v := 1) hx hb dX12_regret_46 (by decide) ?_
          refine lv_iload_n hx hb dX12_regret_47 rfl (lv_at hl 0 rfl) ?_
          refine lv_ishl hx hb dX12_regret_48 ?_
          refine zi_top (a := 1) (b := 32) (zB_shl1 bx9f_v4_2 (by decide) (by decide) (by decide) (by decide)) (fun y48 by48 => ?_)
          refine lv_ior hx hb dX12_regret_49 ?_
          refine zi_top (a := 1) (b := 63) (zB_or 6 bv4_1_k4 by48 (by decide) (by decide) (by decide) (by decide) (by decide) (by decide) (by decide)) (fun y49 by49 => ?_)
          refine lv_istore_n (lv' := [(1, .int y49), (2, .int v4_2), (0, .ref MO)]) hx hb dX12_regret_50 rfl hl (by decide) rfl (fun ls hl => ?_)
          exact j51 ls y49 (zB_w by49 (by decide) (by decide)) sMO_things_0_k4 sMO_all_0_k4 (lv_sub hl [1, 0, 2] rfl)
  refine lv_istore_n (lv' := [(2, .int 0), (1, .int 0), (0, .ref MO)]) hx hb dX12_regret_3 rfl hl (by decide) rfl (fun ls hl => ?_)
  exact j4 7 ls 0 0 (zB_w (show zB 0 0 0 from ⟨by decide, by decide⟩) (by decide) (by decide)) (zB_w (show zB 0 0 0 from ⟨by decide, by decide⟩) (by decide) (by decide)) s_MO_things_0 s_MO_all_0 (zM_ui (show zB 0 0 0 from ⟨by decide, by decide⟩) (by decide)) (lv_sub hl [0, 1, 2] rfl)
set_option maxHeartbeats 4000000 in
set_option maxRecDepth 100000 in
theorem c_X12_gainOf (l : Launch) (D : va_G) (cI : ClassId) (cB : ClassId) (cL : ClassId) (cZ : ClassId) (cG : ClassId) (MO : Nat) (x0 : Int32) (x1 : Int32) (aMO : Nat → Nat) (MO_taped : Int32) (MO_size : Int32) (MO_faultKind : Int32) (MO_faultPlace : Int32) (MO_at : Int32) (MO_end : Int32) (MO_token : Int32) (MO_number : Int32) (MO_name : Int64) (MO_bank : Int32) (MO_rb : Int32) (MO_codes : Int32) (MO_within : Int32) (MO_piled : Int32) (MO_unitsInRule : Int32) (MO_askThing : Int32) (MO_acts : Int32) (MO_undone : Int32) (MO_laid : Int32) (MO_heards : Int32) (MO_time : Int32) (MO_all : Nat → Int32) (MO_toThem : Nat → Int32) (MO_toUs : Nat → Int32) (b_x0 : zB x0 0 5) (b_x1 : zB x1 0 5) (b_MO_taped : zB MO_taped 0 1600) (b_MO_size : zB MO_size 0 1600) (b_MO_faultKind : zB MO_faultKind 0 5) (b_MO_at : zB MO_at 0 1600) (b_MO_end : zB MO_end 0 1600) (b_MO_token : zB MO_token 0 5) (b_MO_bank : zB MO_bank 0 1) (b_MO_rb : zB MO_rb 0 1) (b_MO_codes : zB MO_codes 0 1120) (b_MO_within : zB MO_within 0 7) (b_MO_piled : zB MO_piled 0 89) (b_MO_unitsInRule : zB MO_unitsInRule 0 30) (b_MO_askThing : zB MO_askThing 0 5) (b_MO_acts : zB MO_acts 0 40) (b_MO_undone : zB MO_undone 0 40) (b_MO_laid : zB MO_laid 0 8) (b_MO_heards : zB MO_heards 0 30) (b_MO_time : zB MO_time 0 100000) (s_MO_all_0 : zA MO_all 0 12 0 7) : Met l yX12_gainOf wsX12_gainOf ({ frames := 1, cells := 0, slots := 0, locals := 22 }) (xr D [(cI, .int), (cB, .byte), (cL, .long), (cZ, .boolean), (cG, .array .int)] [(MO, .inr (12, oX12 aMO MO_taped MO_size MO_faultKind MO_faultPlace MO_at MO_end MO_token MO_number MO_name MO_bank MO_rb MO_codes MO_within MO_piled MO_unitsInRule MO_askThing MO_acts MO_undone MO_laid MO_heards MO_time)), ((aMO 42), .inl (cI, 32, .inl MO_all)), ((aMO 23), .inl (cI, 12, .inl MO_toThem)), ((aMO 22), .inl (cI, 12, .inl MO_toUs))] [.ref MO, .int x0, .int x1]) (vp_Si (fun r => True)) 0 0 (fun _ => False) := by
  refine Met.ofW (cc := cX12_gainOf) (maxL := 5) (ret := (some .int)) (by decide) rfl ?_
  intro p e s m args below meth c s₁ B hml hv
  obtain ⟨rfl, hP, hK⟩ := hv
  have hx := B.exec
  have hb := B.bytes
  have hr := B.returns
  have hts := atoms_spec (ws := wsX12_gainOf) B.pre
  have hown : s.vm.findClass RX12 = some m.cls := findClass_of_methodNamed B.named
  have hlocks := B.notSynchronized
  clear B
  have hl := lv_entry ([.ref MO, .int x0, .int x1]) (n := 5) (Nat.le_of_ble_eq_true rfl)
  rw [lg_entry_eq]
  generalize (lg_sl ([.ref MO, .int x0, .int x1]) ++ List.replicate (5 - (lg_sl ([.ref MO, .int x0, .int x1])).length) Slot.unset).toArray = ls at hl ⊢
  replace hl : lv_has ls 5 [(0, .ref MO), (1, .int x0), (2, .int x1)] := hl
  refine lv_aload_n hx hb dX12_gainOf_0 rfl (lv_at hl 0 rfl) ?_
  refine va_get (D := D) (ci := 12) (v := .ref (aMO 42)) (C := RX12) (T := TX12) (N := 71) hx hb hts iw_X12_gainOf_X12 hown hK hP 0 rfl rfl 42 (by decide) (hts (.fieldLink RX12 95 "SoldHouseModel" "all" "[I") (List.mem_of_getElem? (i := 1) rfl)) (fun _ h9 => h9) rfl dX12_gainOf_1 ?_
  refine lv_bipush (v := 12) hx hb dX12_gainOf_4 (by decide) ?_
  refine lv_iload_n hx hb dX12_gainOf_6 rfl (lv_at hl 1 rfl) ?_
  refine lv_iadd hx hb dX12_gainOf_7 ?_
  refine zi_top (a := 12) (b := 17) (zB_add (show zB 12 12 12 from ⟨by decide, by decide⟩) b_x0 (by decide) (by decide) (by decide) (by decide)) (fun y7 by7 => ?_)
  refine va_iald hx hb hK hP 1 0 rfl rfl (zB_in by7 (by decide) (by decide)) dX12_gainOf_8 ?_
  refine lv_topi (fun y8 _ => ?_)
  refine lv_iconst (v := 1) hx hb dX12_gainOf_9 (by decide) ?_
  refine lv_icmp_ne (tgt := 25) hx hb dX12_gainOf_10 (by decide) (fun c10 => ?_) (fun c10 => ?_)
  · refine lv_iconst (v := (-1)) hx hb dX12_gainOf_25 (by decide) ?_
    exact W.iret (v := (-1)) hx hb hr (fun t ht hW => ⟨(-1), rfl, trivial, ht⟩) (fun q hq => by cases hq) dX12_gainOf_26
  · have be10f_y8 : zB y8 1 1 := zB_eq c10 (zB_top y8) (show zB 1 1 1 from ⟨by decide, by decide⟩) (by decide) (by decide)
    refine lv_aload_n hx hb dX12_gainOf_13 rfl (lv_at hl 0 rfl) ?_
    refine va_get (D := D) (ci := 12) (v := .ref (aMO 42)) (C := RX12) (T := TX12) (N := 71) hx hb hts iw_X12_gainOf_X12 hown hK hP 0 rfl rfl 42 (by decide) (hts (.fieldLink RX12 95 "SoldHouseModel" "all" "[I") (List.mem_of_getElem? (i := 1) rfl)) (fun _ h9 => h9) rfl dX12_gainOf_14 ?_
    refine lv_bipush (v := 12) hx hb dX12_gainOf_17 (by decide) ?_
    refine lv_iload_n hx hb dX12_gainOf_19 rfl (lv_at hl 2 rfl) ?_
    refine lv_iadd hx hb dX12_gainOf_20 ?_
    refine zi_top (a := 12) (b := 17) (zB_add (show zB 12 12 12 from ⟨by decide, by decide⟩) b_x1 (by decide) (by decide) (by decide) (by decide)) (fun y20 by20 => ?_)
    refine va_iald hx hb hK hP 1 0 rfl rfl (zB_in by20 (by decide) (by decide)) dX12_gainOf_21 ?_
    refine lv_topi (fun y21 _ => ?_)
    refine lv_if_eq (tgt := 27) hx hb dX12_gainOf_22 (by decide) (fun c22 => ?_) (fun c22 => ?_)
    · have be22t_y21 : zB y21 0 0 := zB_eq c22 (zB_top y21) (show zB 0 0 0 from ⟨by decide, by decide⟩) (by decide) (by decide)
      refine lv_aload_n hx hb dX12_gainOf_27 rfl (lv_at hl 0 rfl) ?_
      refine lv_iload_n hx hb dX12_gainOf_28 rfl (lv_at hl 2 rfl) ?_
      refine lv_iconst (v := 0) hx hb dX12_gainOf_29 (by decide) ?_
      have hPc := hP.sub (ws' := [(MO, .inr (12, oX12 aMO MO_taped MO_size MO_faultKind MO_faultPlace MO_at MO_end MO_token MO_number MO_name MO_bank MO_rb MO_codes MO_within MO_piled MO_unitsInRule MO_askThing MO_acts MO_undone MO_laid MO_heards MO_time)), ((aMO 23), .inl (cI, 12, .inl MO_toThem)), ((aMO 22), .inl (cI, 12, .inl MO_toUs))]) [0, 2, 3] rfl
      refine vp_callSi (va_runV (As := [.int x1, .int 0]) (rest := []) ⟨hx, hb, hml, hown, hts⟩ (c_X12_worthOf l D cI cB cL cZ cG MO x1 0 aMO MO_taped MO_size MO_faultKind MO_faultPlace MO_at MO_end MO_token MO_number MO_name MO_bank MO_rb MO_codes MO_within MO_piled MO_unitsInRule MO_askThing MO_acts MO_undone MO_laid MO_heards MO_time MO_toThem MO_toUs b_x1 b_MO_taped b_MO_size b_MO_faultKind b_MO_at b_MO_end b_MO_token b_MO_bank b_MO_rb b_MO_codes b_MO_within b_MO_piled b_MO_unitsInRule b_MO_askThing b_MO_acts b_MO_undone b_MO_laid b_MO_heards b_MO_time) (cwV 2 hts gX12_gainOf_X12_worthOf rfl rfl rfl (by decide +kernel) ⟨Nat.le_of_ble_eq_true rfl, Nat.le_of_ble_eq_true rfl⟩) ⟨xr_blind, va_recv hK hP (ci := 12) (q0 := 0) rfl rfl, fun U hU hW => xr_mk hU hW hPc hK⟩ rfl rfl hl.1 rfl (lv_room (Nat.le_of_ble_eq_true rfl)) dX12_gainOf_30 ⟨Nat.le_of_ble_eq_true rfl, Nat.le_of_ble_eq_true rfl⟩).run (fun r30 hr30 => ?_)
      clear hPc
      clear hr30
      refine lv_aload_n hx hb dX12_gainOf_33 rfl (lv_at hl 0 rfl) ?_
      refine lv_iload_n hx hb dX12_gainOf_34 rfl (lv_at hl 1 rfl) ?_
      refine lv_iconst (v := 0) hx hb dX12_gainOf_35 (by decide) ?_
      have hPc := hP.sub (ws' := [(MO, .inr (12, oX12 aMO MO_taped MO_size MO_faultKind MO_faultPlace MO_at MO_end MO_token MO_number MO_name MO_bank MO_rb MO_codes MO_within MO_piled MO_unitsInRule MO_askThing MO_acts MO_undone MO_laid MO_heards MO_time)), ((aMO 23), .inl (cI, 12, .inl MO_toThem)), ((aMO 22), .inl (cI, 12, .inl MO_toUs))]) [0, 2, 3] rfl
      refine vp_callSi (va_runV (As := [.int x0, .int 0]) (rest := [.int r30]) ⟨hx, hb, hml, hown, hts⟩ (c_X12_worthOf l D cI cB cL cZ cG MO x0 0 aMO MO_taped MO_size MO_faultKind MO_faultPlace MO_at MO_end MO_token MO_number MO_name MO_bank MO_rb MO_codes MO_within MO_piled MO_unitsInRule MO_askThing MO_acts MO_undone MO_laid MO_heards MO_time MO_toThem MO_toUs b_x0 b_MO_taped b_MO_size b_MO_faultKind b_MO_at b_MO_end b_MO_token b_MO_bank b_MO_rb b_MO_codes b_MO_within b_MO_piled b_MO_unitsInRule b_MO_askThing b_MO_acts b_MO_undone b_MO_laid b_MO_heards b_MO_time) (cwV 2 hts gX12_gainOf_X12_worthOf rfl rfl rfl (by decide +kernel) ⟨Nat.le_of_ble_eq_true rfl, Nat.le_of_ble_eq_true rfl⟩) ⟨xr_blind, va_recv hK hP (ci := 12) (q0 := 0) rfl rfl, fun U hU hW => xr_mk hU hW hPc hK⟩ rfl rfl hl.1 rfl (lv_room (Nat.le_of_ble_eq_true rfl)) dX12_gainOf_36 ⟨Nat.le_of_ble_eq_true rfl, Nat.le_of_ble_eq_true rfl⟩).run (fun r36 hr36 => ?_)
      clear hPc
      clear hr36
      refine lv_isub hx hb dX12_gainOf_39 ?_
      refine lv_topi (fun y39 _ => ?_)
      refine lv_istore_n (lv' := [(3, .int y39), (0, .ref MO), (1, .int x0), (2, .int x1)]) hx hb dX12_gainOf_40 rfl hl (by decide) rfl (fun ls hl => ?_)
      refine lv_aload_n hx hb dX12_gainOf_41 rfl (lv_at hl 1 rfl) ?_
      refine lv_iload_n hx hb dX12_gainOf_42 rfl (lv_at hl 2 rfl) ?_
      refine lv_iconst (v := 1) hx hb dX12_gainOf_43 (by decide) ?_
      have hPc := hP.sub (ws' := [(MO, .inr (12, oX12 aMO MO_taped MO_size MO_faultKind MO_faultPlace MO_at MO_end MO_token MO_number MO_name MO_bank MO_rb MO_codes MO_within MO_piled MO_unitsInRule MO_askThing MO_acts MO_undone MO_laid MO_heards MO_time)), ((aMO 23), .inl (cI, 12, .inl MO_toThem)), ((aMO 22), .inl (cI, 12, .inl MO_toUs))]) [0, 2, 3] rfl
      refine vp_callSi (va_runV (As := [.int x0, .int 1]) (rest := []) ⟨hx, hb, hml, hown, hts⟩ (c_X12_worthOf l D cI cB cL cZ cG MO x0 1 aMO MO_taped MO_size MO_faultKind MO_faultPlace MO_at MO_end MO_token MO_number MO_name MO_bank MO_rb MO_codes MO_within MO_piled MO_unitsInRule MO_askThing MO_acts MO_undone MO_laid MO_heards MO_time MO_toThem MO_toUs b_x0 b_MO_taped b_MO_size b_MO_faultKind b_MO_at b_MO_end b_MO_token b_MO_bank b_MO_rb b_MO_codes b_MO_within b_MO_piled b_MO_unitsInRule b_MO_askThing b_MO_acts b_MO_undone b_MO_laid b_MO_heards b_MO_time) (cwV 2 hts gX12_gainOf_X12_worthOf rfl rfl rfl (by decide +kernel) ⟨Nat.le_of_ble_eq_true rfl, Nat.le_of_ble_eq_true rfl⟩) ⟨xr_blind, va_recv hK hP (ci := 12) (q0 := 0) rfl rfl, fun U hU hW => xr_mk hU hW hPc hK⟩ rfl rfl hl.1 rfl (lv_room (Nat.le_of_ble_eq_true rfl)) dX12_gainOf_44 ⟨Nat.le_of_ble_eq_true rfl, Nat.le_of_ble_eq_true rfl⟩).run (fun r44 hr44 => ?_)
      clear hPc
      clear hr44
      refine lv_aload_n hx hb dX12_gainOf_47 rfl (lv_at hl 1 rfl) ?_
      refine lv_iload_n hx hb dX12_gainOf_48 rfl (lv_at hl 3 rfl) ?_
      refine lv_iconst (v := 1) hx hb dX12_gainOf_49 (by decide) ?_
      have hPc := hP.sub (ws' := [(MO, .inr (12, oX12 aMO MO_taped MO_size MO_faultKind MO_faultPlace MO_at MO_end MO_token MO_number MO_name MO_bank MO_rb MO_codes MO_within MO_piled MO_unitsInRule MO_askThing MO_acts MO_undone MO_laid MO_heards MO_time)), ((aMO 23), .inl (cI, 12, .inl MO_toThem)), ((aMO 22), .inl (cI, 12, .inl MO_toUs))]) [0, 2, 3] rfl
      refine vp_callSi (va_runV (As := [.int x1, .int 1]) (rest := [.int r44]) ⟨hx, hb, hml, hown, hts⟩ (c_X12_worthOf l D cI cB cL cZ cG MO x1 1 aMO MO_taped MO_size MO_faultKind MO_faultPlace MO_at MO_end MO_token MO_number MO_name MO_bank MO_rb MO_codes MO_within MO_piled MO_unitsInRule MO_askThing MO_acts MO_undone MO_laid MO_heards MO_time MO_toThem MO_toUs b_x1 b_MO_taped b_MO_size b_MO_faultKind b_MO_at b_MO_end b_MO_token b_MO_bank b_MO_rb b_MO_codes b_MO_within b_MO_piled b_MO_unitsInRule b_MO_askThing b_MO_acts b_MO_undone b_MO_laid b_MO_heards b_MO_time) (cwV 2 hts gX12_gainOf_X12_worthOf rfl rfl rfl (by decide +kernel) ⟨Nat.le_of_ble_eq_true rfl, Nat.le_of_ble_eq_true rfl⟩) ⟨xr_blind, va_recv hK hP (ci := 12) (q0 := 0) rfl rfl, fun U hU hW => xr_mk hU hW hPc hK⟩ rfl rfl hl.1 rfl (lv_room (Nat.le_of_ble_eq_true rfl)) dX12_gainOf_50 ⟨Nat.le_of_ble_eq_true rfl, Nat.le_of_ble_eq_true rfl⟩).run (fun r50 hr50 => ?_)
      clear hPc
      clear hr50
      refine lv_isub hx hb dX12_gainOf_53 ?_
      refine lv_topi (fun y53 _ => ?_)
      refine lv_istore (lv' := [(4, .int y53), (3, .int y39), (0, .ref MO), (1, .int x0), (2, .int x1)]) hx hb dX12_gainOf_54 hl (by decide) rfl (fun ls hl => ?_)
      refine lv_iload_n hx hb dX12_gainOf_56 rfl (lv_at hl 1 rfl) ?_
      refine lv_if_lt (tgt := 65) hx hb dX12_gainOf_57 (by decide) (fun c57 => ?_) (fun c57 => ?_)
      · have bx57t_y39 : zB y39 (-2147483648) (-1) := zB_ltu (zl c57) (zB_top y39) (show zB 0 0 0 from ⟨by decide, by decide⟩) (by decide)
        refine lv_iconst (v := (-1)) hx hb dX12_gainOf_65 (by decide) ?_
        refine lv_goto (tgt := 73) hx hb dX12_gainOf_66 (by decide) ?_
        exact W.iret (v := (-1)) hx hb hr (fun t ht hW => ⟨(-1), rfl, trivial, ht⟩) (fun q hq => by cases hq) dX12_gainOf_73
      · have by57f_y39 : zB y39 0 2147483647 := zB_lev (zg c57) (show zB 0 0 0 from ⟨by decide, by decide⟩) (zB_top y39) (by decide)
        refine lv_iload hx hb dX12_gainOf_60 (lv_at hl 0 rfl) ?_
        refine lv_if_ge (tgt := 69) hx hb dX12_gainOf_62 (by decide) (fun c62 => ?_) (fun c62 => ?_)
        · have by62t_y53 : zB y53 0 2147483647 := zB_lev (ze c62) (show zB 0 0 0 from ⟨by decide, by decide⟩) (zB_top y53) (by decide)
          refine lv_iload_n hx hb dX12_gainOf_69 rfl (lv_at hl 1 rfl) ?_
          refine lv_iload hx hb dX12_gainOf_70 (lv_at hl 0 rfl) ?_
          refine lv_iadd hx hb dX12_gainOf_72 ?_
          refine lv_topi (fun y72 _ => ?_)
          exact W.iret (v := y72) hx hb hr (fun t ht hW => ⟨y72, rfl, trivial, ht⟩) (fun q hq => by cases hq) dX12_gainOf_73
        · have bx62f_y53 : zB y53 (-2147483648) (-1) := zB_ltu (zf c62) (zB_top y53) (show zB 0 0 0 from ⟨by decide, by decide⟩) (by decide)
          refine lv_iconst (v := (-1)) hx hb dX12_gainOf_65 (by decide) ?_
          refine lv_goto (tgt := 73) hx hb dX12_gainOf_66 (by decide) ?_
          exact W.iret (v := (-1)) hx hb hr (fun t ht hW => ⟨(-1), rfl, trivial, ht⟩) (fun q hq => by cases hq) dX12_gainOf_73
    · refine lv_iconst (v := (-1)) hx hb dX12_gainOf_25 (by decide) ?_
      exact W.iret (v := (-1)) hx hb hr (fun t ht hW => ⟨(-1), rfl, trivial, ht⟩) (fun q hq => by cases hq) dX12_gainOf_26
set_option maxHeartbeats 4000000 in
set_option maxRecDepth 100000 in
theorem c_X12_trade (l : Launch) (D : va_G) (cI : ClassId) (cB : ClassId) (cL : ClassId) (cZ : ClassId) (cG : ClassId) (MO : Nat) (x0 : Int32) (aMO : Nat → Nat) (MO_taped : Int32) (MO_size : Int32) (MO_faultKind : Int32) (MO_faultPlace : Int32) (MO_at : Int32) (MO_end : Int32) (MO_token : Int32) (MO_number : Int32) (MO_name : Int64) (MO_bank : Int32) (MO_rb : Int32) (MO_codes : Int32) (MO_within : Int32) (MO_piled : Int32) (MO_unitsInRule : Int32) (MO_askThing : Int32) (MO_acts : Int32) (MO_undone : Int32) (MO_laid : Int32) (MO_heards : Int32) (MO_time : Int32) (MO_things : Nat → Int32) (MO_all : Nat → Int32) (MO_toThem : Nat → Int32) (MO_toUs : Nat → Int32) (b_MO_taped : zB MO_taped 0 1600) (b_MO_size : zB MO_size 0 1600) (b_MO_faultKind : zB MO_faultKind 0 5) (b_MO_at : zB MO_at 0 1600) (b_MO_end : zB MO_end 0 1600) (b_MO_token : zB MO_token 0 5) (b_MO_bank : zB MO_bank 0 1) (b_MO_rb : zB MO_rb 0 1) (b_MO_codes : zB MO_codes 0 1120) (b_MO_within : zB MO_within 0 7) (b_MO_piled : zB MO_piled 0 89) (b_MO_unitsInRule : zB MO_unitsInRule 0 30) (b_MO_askThing : zB MO_askThing 0 5) (b_MO_acts : zB MO_acts 0 40) (b_MO_undone : zB MO_undone 0 40) (b_MO_laid : zB MO_laid 0 8) (b_MO_heards : zB MO_heards 0 30) (b_MO_time : zB MO_time 0 100000) (s_MO_things_0 : zA MO_things 0 2 0 6) (s_MO_all_0 : zA MO_all 0 12 0 7) : Met l yX12_trade wsX12_trade ({ frames := 2, cells := 0, slots := 0, locals := 46 }) (xr D [(cI, .int), (cB, .byte), (cL, .long), (cZ, .boolean), (cG, .array .int)] [(MO, .inr (12, oX12 aMO MO_taped MO_size MO_faultKind MO_faultPlace MO_at MO_end MO_token MO_number MO_name MO_bank MO_rb MO_codes MO_within MO_piled MO_unitsInRule MO_askThing MO_acts MO_undone MO_laid MO_heards MO_time)), ((aMO 13), .inl (cI, 2, .inl MO_things)), ((aMO 42), .inl (cI, 32, .inl MO_all)), ((aMO 23), .inl (cI, 12, .inl MO_toThem)), ((aMO 22), .inl (cI, 12, .inl MO_toUs))] [.ref MO, .int x0]) (vp_Si (fun r => True)) 0 0 (fun _ => False) := by
  refine Met.ofW (cc := cX12_trade) (maxL := 5) (ret := (some .int)) (by decide) rfl ?_
  intro p e s m args below meth c s₁ B hml hv
  obtain ⟨rfl, hP, hK⟩ := hv
  have hx := B.exec
  have hb := B.bytes
  have hr := B.returns
  have hts := atoms_spec (ws := wsX12_trade) B.pre
  have hown : s.vm.findClass RX12 = some m.cls := findClass_of_methodNamed B.named
  have hlocks := B.notSynchronized
  clear B
  have hl := lv_entry ([.ref MO, .int x0]) (n := 5) (Nat.le_of_ble_eq_true rfl)
  rw [lg_entry_eq]
  generalize (lg_sl ([.ref MO, .int x0]) ++ List.replicate (5 - (lg_sl ([.ref MO, .int x0])).length) Slot.unset).toArray = ls at hl ⊢
  replace hl : lv_has ls 5 [(0, .ref MO), (1, .int x0)] := hl
  refine zz_abs (R := ({ frames := 2, cells := 0, slots := 0, locals := 46 } : Room)) (fun Q up => ?_)
  refine lv_iload_n hx hb dX12_trade_0 rfl (lv_at hl 1 rfl) ?_
  refine lv_iconst (v := 0) hx hb dX12_trade_1 (by decide) ?_
  refine lv_iconst (v := 2) hx hb dX12_trade_2 (by decide) ?_
  have hPc := hP.sub (ws' := []) [] rfl
  refine vp_callSi (va_runS (As := [.int x0, .int 0, .int 2]) (rest := []) ⟨hx, hb, hml, hown, hts⟩ (c_X12_isIn l D cI cB cL cZ cG x0 0 2) (va_cwS 3 hts gX12_trade_X12_isIn rfl rfl rfl (by decide +kernel) ⟨Nat.le_of_ble_eq_true rfl, Nat.le_of_ble_eq_true rfl⟩) ⟨xr_blind, fun U hU hW => xr_mk hU hW hPc hK⟩ rfl rfl hl.1 rfl (lv_room (Nat.le_of_ble_eq_true rfl)) dX12_trade_3 ⟨Nat.le_of_ble_eq_true rfl, Nat.le_of_ble_eq_true rfl⟩).run (fun r3 hr3 => ?_)
  clear hPc
  rcases hr3 with rfl | ⟨rfl, hr3_1_0, hr3_1_1⟩
  · refine lv_if_ne (tgt := 11) hx hb dX12_trade_6 (by decide) (fun c6 => absurd (by decide) c6) (fun _ => ?_)
    refine lv_iconst (v := (-1)) hx hb dX12_trade_9 (by decide) ?_
    exact up _ _ _ (W.iret (v := (-1)) hx hb hr (fun t ht hW => ⟨(-1), rfl, trivial, ht⟩) (fun q hq => by cases hq) dX12_trade_10)
  · have by6r0_x0 : zB x0 0 2147483647 := zB_lev hr3_1_0 (show zB 0 0 0 from ⟨by decide, by decide⟩) (zB_top x0) (by decide)
    have bx6r1_x0 : zB x0 0 2 := zB_leu hr3_1_1 by6r0_x0 (show zB 2 2 2 from ⟨by decide, by decide⟩) (by decide)
    refine lv_if_ne (tgt := 11) hx hb dX12_trade_6 (by decide) (fun _ => ?_) (fun c6 => absurd c6 (by decide))
    refine lv_iconst (v := (-1)) hx hb dX12_trade_11 (by decide) ?_
    refine lv_istore_n (lv' := [(2, .int (-1)), (0, .ref MO), (1, .int x0)]) hx hb dX12_trade_12 rfl hl (by decide) rfl (fun ls hl => ?_)
    refine lv_iconst (v := (-1)) hx hb dX12_trade_13 (by decide) ?_
    refine lv_istore_n (lv' := [(3, .int (-1)), (2, .int (-1)), (0, .ref MO), (1, .int x0)]) hx hb dX12_trade_14 rfl hl (by decide) rfl (fun ls hl => ?_)
    refine lv_iconst (v := 0) hx hb dX12_trade_15 (by decide) ?_
    have j18 : ∀ (n18 : Nat) (ls : Array Slot) (v18_4 : Int32) (v18_3 : Int32) (v18_2 : Int32), zB v18_4 0 36 → zB v18_2 (-1) 35 → zA MO_things 0 2 0 6 → zA MO_all 0 12 0 7 → (36 + 1 - v18_4.toInt) ≤ (n18 : Int) → lv_has ls 5 [(4, .int v18_4), (3, .int v18_3), (2, .int v18_2), (0, .ref MO), (1, .int x0)] → W p l e ({ frames := 2, cells := 0, slots := 0, locals := 46 } : Room) s m ([.ref MO, .int x0] : List Value).toArray below meth c s.heap [] 0 0 Q (F0 m 18 ls []) := by
      intro n18
      induction n18 with
      | zero => intro ls v18_4 v18_3 v18_2 bv18_4_k18 bv18_2_k18 sMO_things_0_k18 sMO_all_0_k18 hm18 hl; exact zM_u0 bv18_4_k18 hm18
      | succ n18 ih18 =>
        intro ls v18_4 v18_3 v18_2 bv18_4_k18 bv18_2_k18 sMO_things_0_k18 sMO_all_0_k18 hm18 hl
        refine lv_iload hx hb dX12_trade_18 (lv_at hl 0 rfl) ?_
        refine lv_bipush (v := 36) hx hb dX12_trade_20 (by decide) ?_
        refine lv_icmp_ge (tgt := 94) hx hb dX12_trade_22 (by decide) (fun c22 => ?_) (fun c22 => ?_)
        · have by22t_v18_4 : zB v18_4 36 36 := zB_lev (ze c22) (show zB 36 36 36 from ⟨by decide, by decide⟩) bv18_4_k18 (by decide)
          refine lv_iload_n hx hb dX12_trade_94 rfl (lv_at hl 2 rfl) ?_
          refine lv_if_ge (tgt := 102) hx hb dX12_trade_95 (by decide) (fun c95 => ?_) (fun c95 => ?_)
          · have by95t_v18_2 : zB v18_2 0 35 := zB_lev (ze c95) (show zB 0 0 0 from ⟨by decide, by decide⟩) bv18_2_k18 (by decide)
            refine lv_iload_n hx hb dX12_trade_102 rfl (lv_at hl 4 rfl) ?_
            refine lv_if_ne (tgt := 110) hx hb dX12_trade_103 (by decide) (fun c103 => ?_) (fun c103 => ?_)
            · have bn103t_x0 : zB x0 1 2 := zB_neL c103 bx6r1_x0 (show zB 0 0 0 from ⟨by decide, by decide⟩) (by decide)
              refine lv_iload_n hx hb dX12_trade_110 rfl (lv_at hl 4 rfl) ?_
              refine lv_iconst (v := 1) hx hb dX12_trade_111 (by decide) ?_
              refine lv_icmp_ne (tgt := 122) hx hb dX12_trade_112 (by decide) (fun c112 => ?_) (fun c112 => ?_)
              · have bn112t_x0 : zB x0 2 2 := zB_neL c112 bn103t_x0 (show zB 1 1 1 from ⟨by decide, by decide⟩) (by decide)
                refine lv_iload_n hx hb dX12_trade_122 rfl (lv_at hl 2 rfl) ?_
                refine lv_bipush (v := 6) hx hb dX12_trade_123 (by decide) ?_
                refine lv_irem hx hb dX12_trade_125 (by decide) ?_
                refine zi_top (a := 0) (b := 5) (zB_rem by95t_v18_2 (show zB 6 6 6 from ⟨by decide, by decide⟩) (by decide) (by decide) (by decide)) (fun y125 by125 => ?_)
                exact up _ _ _ (W.iret (v := y125) hx hb hr (fun t ht hW => ⟨y125, rfl, trivial, ht⟩) (fun q hq => by cases hq) dX12_trade_126)
              · have be112f_x0 : zB x0 1 1 := zB_eq c112 bn103t_x0 (show zB 1 1 1 from ⟨by decide, by decide⟩) (by decide) (by decide)
                refine lv_iload_n hx hb dX12_trade_115 rfl (lv_at hl 2 rfl) ?_
                refine lv_bipush (v := 6) hx hb dX12_trade_116 (by decide) ?_
                refine lv_idiv hx hb dX12_trade_118 (by decide) ?_
                refine zi_top (a := 0) (b := 5) (zB_div by95t_v18_2 (show zB 6 6 6 from ⟨by decide, by decide⟩) (by decide) (by decide) (by decide) (by decide)) (fun y118 by118 => ?_)
                refine lv_goto (tgt := 126) hx hb dX12_trade_119 (by decide) ?_
                exact up _ _ _ (W.iret (v := y118) hx hb hr (fun t ht hW => ⟨y118, rfl, trivial, ht⟩) (fun q hq => by cases hq) dX12_trade_126)
            · have be103f_x0 : zB x0 0 0 := zB_eq c103 bx6r1_x0 (show zB 0 0 0 from ⟨by decide, by decide⟩) (by decide) (by decide)
              refine lv_iload_n hx hb dX12_trade_106 rfl (lv_at hl 1 rfl) ?_
              refine lv_goto (tgt := 126) hx hb dX12_trade_107 (by decide) ?_
              exact up _ _ _ (W.iret (v := v18_3) hx hb hr (fun t ht hW => ⟨v18_3, rfl, trivial, ht⟩) (fun q hq => by cases hq) dX12_trade_126)
          · have bx95f_v18_2 : zB v18_2 (-1) (-1) := zB_ltu (zf c95) bv18_2_k18 (show zB 0 0 0 from ⟨by decide, by decide⟩) (by decide)
            refine lv_iconst (v := (-1)) hx hb dX12_trade_98 (by decide) ?_
            refine lv_goto (tgt := 126) hx hb dX12_trade_99 (by decide) ?_
            exact up _ _ _ (W.iret (v := (-1)) hx hb hr (fun t ht hW => ⟨(-1), rfl, trivial, ht⟩) (fun q hq => by cases hq) dX12_trade_126)
        · have bx22f_v18_4 : zB v18_4 0 35 := zB_ltu (zf c22) bv18_4_k18 (show zB 36 36 36 from ⟨by decide, by decide⟩) (by decide)
          refine lv_iload hx hb dX12_trade_25 (lv_at hl 0 rfl) ?_
          refine lv_bipush (v := 6) hx hb dX12_trade_27 (by decide) ?_
          refine lv_idiv hx hb dX12_trade_29 (by decide) ?_
          refine zi_top (a := 0) (b := 5) (zB_div bx22f_v18_4 (show zB 6 6 6 from ⟨by decide, by decide⟩) (by decide) (by decide) (by decide) (by decide)) (fun y29 by29 => ?_)
          refine lv_aload_n hx hb dX12_trade_30 rfl (lv_at hl 3 rfl) ?_
          have hPc := hP.sub (ws' := [(MO, .inr (12, oX12 aMO MO_taped MO_size MO_faultKind MO_faultPlace MO_at MO_end MO_token MO_number MO_name MO_bank MO_rb MO_codes MO_within MO_piled MO_unitsInRule MO_askThing MO_acts MO_undone MO_laid MO_heards MO_time)), ((aMO 13), .inl (cI, 2, .inl MO_things))]) [0, 1] rfl
          refine vp_callSi (va_runV (As := []) (rest := [.int y29]) ⟨hx, hb, hml, hown, hts⟩ (c_X12_many l D cI cB cL cZ cG MO aMO MO_taped MO_size MO_faultKind MO_faultPlace MO_at MO_end MO_token MO_number MO_name MO_bank MO_rb MO_codes MO_within MO_piled MO_unitsInRule MO_askThing MO_acts MO_undone MO_laid MO_heards MO_time MO_things b_MO_taped b_MO_size b_MO_faultKind b_MO_at b_MO_end b_MO_token b_MO_bank b_MO_rb b_MO_codes b_MO_within b_MO_piled b_MO_unitsInRule b_MO_askThing b_MO_acts b_MO_undone b_MO_laid b_MO_heards b_MO_time sMO_things_0_k18) (cwV 0 hts gX12_trade_X12_many rfl rfl rfl (by decide +kernel) ⟨Nat.le_of_ble_eq_true rfl, Nat.le_of_ble_eq_true rfl⟩) ⟨xr_blind, va_recv hK hP (ci := 12) (q0 := 0) rfl rfl, fun U hU hW => xr_mk hU hW hPc hK⟩ rfl rfl hl.1 rfl (lv_room (Nat.le_of_ble_eq_true rfl)) dX12_trade_31 ⟨Nat.le_of_ble_eq_true rfl, Nat.le_of_ble_eq_true rfl⟩).run (fun r31 hr31 => ?_)
          obtain ⟨hr31, p31_v, p31_i⟩ := hr31
          clear hPc
          have j88 : ∀ (ls : Array Slot) (v88_3 : Int32) (v88_2 : Int32), zB v88_2 (-1) 35 → zA MO_things 0 2 0 6 → zA MO_all 0 12 0 7 → lv_has ls 5 [(4, .int v18_4), (3, .int v88_3), (2, .int v88_2), (0, .ref MO), (1, .int x0)] → W p l e ({ frames := 2, cells := 0, slots := 0, locals := 46 } : Room) s m ([.ref MO, .int x0] : List Value).toArray below meth c s.heap [] 0 0 Q (F0 m 88 ls []) := by
            intro ls v88_3 v88_2 bv88_2_k88 sMO_things_0_k88 sMO_all_0_k88 hl
            obtain ⟨y88, by88, ry88, ey88⟩ := zi_inc (x := v18_4) (k := 1) (a := 1) (b := 36) bx22f_v18_4 (by decide) (by decide) (by decide) (by decide) (by decide)
            refine lv_iinc (v := y88) (lv' := [(4, .int y88), (3, .int v88_3), (2, .int v88_2), (0, .ref MO), (1, .int x0)]) hx hb dX12_trade_88 hl (k := 0) rfl ey88 (by decide) rfl (fun ls hl => ?_)
            refine lv_goto (tgt := 18) hx hb dX12_trade_91 (by decide) ?_
            exact ih18 ls y88 v88_3 v88_2 (zB_w by88 (by decide) (by decide)) bv88_2_k88 sMO_things_0_k88 sMO_all_0_k88 (zM_us (k := 1) hm18 ry88 (by decide)) (lv_sub hl [0, 1, 2, 3, 4] rfl)
          refine lv_icmp_ge (tgt := 88) hx hb dX12_trade_34 (by decide) (fun c34 => ?_) (fun c34 => ?_)
          · have bx34t_r31 : zB r31 0 5 := zB_leu (ze c34) hr31 by29 (by decide)
            exact j88 ls v18_3 v18_2 bv18_2_k18 sMO_things_0_k18 sMO_all_0_k18 (lv_sub hl [0, 1, 2, 3, 4] rfl)
          · have by34f_r31 : zB r31 1 6 := zB_ltv (zf c34) by29 hr31 (by decide)
            refine lv_iload hx hb dX12_trade_37 (lv_at hl 0 rfl) ?_
            refine lv_bipush (v := 6) hx hb dX12_trade_39 (by decide) ?_
            refine lv_irem hx hb dX12_trade_41 (by decide) ?_
            refine zi_top (a := 0) (b := 5) (zB_rem bx22f_v18_4 (show zB 6 6 6 from ⟨by decide, by decide⟩) (by decide) (by decide) (by decide)) (fun y41 by41 => ?_)
            refine lv_aload_n hx hb dX12_trade_42 rfl (lv_at hl 3 rfl) ?_
            have hPc := hP.sub (ws' := [(MO, .inr (12, oX12 aMO MO_taped MO_size MO_faultKind MO_faultPlace MO_at MO_end MO_token MO_number MO_name MO_bank MO_rb MO_codes MO_within MO_piled MO_unitsInRule MO_askThing MO_acts MO_undone MO_laid MO_heards MO_time)), ((aMO 13), .inl (cI, 2, .inl MO_things))]) [0, 1] rfl
            refine vp_callSi (va_runV (As := []) (rest := [.int y41]) ⟨hx, hb, hml, hown, hts⟩ (c_X12_many l D cI cB cL cZ cG MO aMO MO_taped MO_size MO_faultKind MO_faultPlace MO_at MO_end MO_token MO_number MO_name MO_bank MO_rb MO_codes MO_within MO_piled MO_unitsInRule MO_askThing MO_acts MO_undone MO_laid MO_heards MO_time MO_things b_MO_taped b_MO_size b_MO_faultKind b_MO_at b_MO_end b_MO_token b_MO_bank b_MO_rb b_MO_codes b_MO_within b_MO_piled b_MO_unitsInRule b_MO_askThing b_MO_acts b_MO_undone b_MO_laid b_MO_heards b_MO_time sMO_things_0_k18) (cwV 0 hts gX12_trade_X12_many rfl rfl rfl (by decide +kernel) ⟨Nat.le_of_ble_eq_true rfl, Nat.le_of_ble_eq_true rfl⟩) ⟨xr_blind, va_recv hK hP (ci := 12) (q0 := 0) rfl rfl, fun U hU hW => xr_mk hU hW hPc hK⟩ rfl rfl hl.1 rfl (lv_room (Nat.le_of_ble_eq_true rfl)) dX12_trade_43 ⟨Nat.le_of_ble_eq_true rfl, Nat.le_of_ble_eq_true rfl⟩).run (fun r43 hr43 => ?_)
            obtain ⟨hr43, p43_v, p43_i⟩ := hr43
            clear hPc
            refine lv_icmp_ge (tgt := 88) hx hb dX12_trade_46 (by decide) (fun c46 => ?_) (fun c46 => ?_)
            · have bx46t_r43 : zB r43 0 5 := zB_leu (ze c46) hr43 by41 (by decide)
              exact j88 ls v18_3 v18_2 bv18_2_k18 sMO_things_0_k18 sMO_all_0_k18 (lv_sub hl [0, 1, 2, 3, 4] rfl)
            · have by46f_r43 : zB r43 1 6 := zB_ltv (zf c46) by41 hr43 (by decide)
              refine lv_aload_n hx hb dX12_trade_49 rfl (lv_at hl 3 rfl) ?_
              refine lv_iload hx hb dX12_trade_50 (lv_at hl 0 rfl) ?_
              refine lv_bipush (v := 6) hx hb dX12_trade_52 (by decide) ?_
              refine lv_idiv hx hb dX12_trade_54 (by decide) ?_
              refine zi_top (a := 0) (b := 5) (zB_div bx22f_v18_4 (show zB 6 6 6 from ⟨by decide, by decide⟩) (by decide) (by decide) (by decide) (by decide)) (fun y54 by54 => ?_)
              refine lv_iload hx hb dX12_trade_55 (lv_at hl 0 rfl) ?_
              refine lv_bipush (v := 6) hx hb dX12_trade_57 (by decide) ?_
              refine lv_irem hx hb dX12_trade_59 (by decide) ?_
              refine zi_top (a := 0) (b := 5) (zB_rem bx22f_v18_4 (show zB 6 6 6 from ⟨by decide, by decide⟩) (by decide) (by decide) (by decide)) (fun y59 by59 => ?_)
              have hPc := hP.sub (ws' := [(MO, .inr (12, oX12 aMO MO_taped MO_size MO_faultKind MO_faultPlace MO_at MO_end MO_token MO_number MO_name MO_bank MO_rb MO_codes MO_within MO_piled MO_unitsInRule MO_askThing MO_acts MO_undone MO_laid MO_heards MO_time)), ((aMO 42), .inl (cI, 32, .inl MO_all)), ((aMO 23), .inl (cI, 12, .inl MO_toThem)), ((aMO 22), .inl (cI, 12, .inl MO_toUs))]) [0, 2, 3, 4] rfl
              refine vp_callSi (va_runV (As := [.int y54, .int y59]) (rest := []) ⟨hx, hb, hml, hown, hts⟩ (c_X12_gainOf l D cI cB cL cZ cG MO y54 y59 aMO MO_taped MO_size MO_faultKind MO_faultPlace MO_at MO_end MO_token MO_number MO_name MO_bank MO_rb MO_codes MO_within MO_piled MO_unitsInRule MO_askThing MO_acts MO_undone MO_laid MO_heards MO_time MO_all MO_toThem MO_toUs by54 by59 b_MO_taped b_MO_size b_MO_faultKind b_MO_at b_MO_end b_MO_token b_MO_bank b_MO_rb b_MO_codes b_MO_within b_MO_piled b_MO_unitsInRule b_MO_askThing b_MO_acts b_MO_undone b_MO_laid b_MO_heards b_MO_time sMO_all_0_k18) (cwV 2 hts gX12_trade_X12_gainOf rfl rfl rfl (by decide +kernel) ⟨Nat.le_of_ble_eq_true rfl, Nat.le_of_ble_eq_true rfl⟩) ⟨xr_blind, va_recv hK hP (ci := 12) (q0 := 0) rfl rfl, fun U hU hW => xr_mk hU hW hPc hK⟩ rfl rfl hl.1 rfl (lv_room (Nat.le_of_ble_eq_true rfl)) dX12_trade_60 ⟨Nat.le_of_ble_eq_true rfl, Nat.le_of_ble_eq_true rfl⟩).run (fun r60 hr60 => ?_)
              clear hPc
              clear hr60
              refine lv_iload_n hx hb dX12_trade_63 rfl (lv_at hl 1 rfl) ?_
              refine lv_icmp_gt (tgt := 70) hx hb dX12_trade_64 (by decide) (fun c64 => ?_) (fun c64 => ?_)
              · have bx64t_v18_3 : zB v18_3 (-2147483648) 2147483646 := zB_ltu (zl c64) (zB_top v18_3) (zB_top r60) (by decide)
                have by64t_r60 : zB r60 (-2147483647) 2147483647 := zB_ltv (zl c64) bx64t_v18_3 (zB_top r60) (by decide)
                refine lv_iload hx hb dX12_trade_70 (lv_at hl 0 rfl) ?_
                refine lv_istore_n (lv' := [(2, .int v18_4), (4, .int v18_4), (3, .int v18_3), (0, .ref MO), (1, .int x0)]) hx hb dX12_trade_72 rfl hl (by decide) rfl (fun ls hl => ?_)
                refine lv_aload_n hx hb dX12_trade_73 rfl (lv_at hl 3 rfl) ?_
                refine lv_iload hx hb dX12_trade_74 (lv_at hl 1 rfl) ?_
                refine lv_bipush (v := 6) hx hb dX12_trade_76 (by decide) ?_
                refine lv_idiv hx hb dX12_trade_78 (by decide) ?_
                refine zi_top (a := 0) (b := 5) (zB_div bx22f_v18_4 (show zB 6 6 6 from ⟨by decide, by decide⟩) (by decide) (by decide) (by decide) (by decide)) (fun y78 by78 => ?_)
                refine lv_iload hx hb dX12_trade_79 (lv_at hl 1 rfl) ?_
                refine lv_bipush (v := 6) hx hb dX12_trade_81 (by decide) ?_
                refine lv_irem hx hb dX12_trade_83 (by decide) ?_
                refine zi_top (a := 0) (b := 5) (zB_rem bx22f_v18_4 (show zB 6 6 6 from ⟨by decide, by decide⟩) (by decide) (by decide) (by decide)) (fun y83 by83 => ?_)
                have hPc := hP.sub (ws' := [(MO, .inr (12, oX12 aMO MO_taped MO_size MO_faultKind MO_faultPlace MO_at MO_end MO_token MO_number MO_name MO_bank MO_rb MO_codes MO_within MO_piled MO_unitsInRule MO_askThing MO_acts MO_undone MO_laid MO_heards MO_time)), ((aMO 42), .inl (cI, 32, .inl MO_all)), ((aMO 23), .inl (cI, 12, .inl MO_toThem)), ((aMO 22), .inl (cI, 12, .inl MO_toUs))]) [0, 2, 3, 4] rfl
                refine vp_callSi (va_runV (As := [.int y78, .int y83]) (rest := []) ⟨hx, hb, hml, hown, hts⟩ (c_X12_gainOf l D cI cB cL cZ cG MO y78 y83 aMO MO_taped MO_size MO_faultKind MO_faultPlace MO_at MO_end MO_token MO_number MO_name MO_bank MO_rb MO_codes MO_within MO_piled MO_unitsInRule MO_askThing MO_acts MO_undone MO_laid MO_heards MO_time MO_all MO_toThem MO_toUs by78 by83 b_MO_taped b_MO_size b_MO_faultKind b_MO_at b_MO_end b_MO_token b_MO_bank b_MO_rb b_MO_codes b_MO_within b_MO_piled b_MO_unitsInRule b_MO_askThing b_MO_acts b_MO_undone b_MO_laid b_MO_heards b_MO_time sMO_all_0_k18) (cwV 2 hts gX12_trade_X12_gainOf rfl rfl rfl (by decide +kernel) ⟨Nat.le_of_ble_eq_true rfl, Nat.le_of_ble_eq_true rfl⟩) ⟨xr_blind, va_recv hK hP (ci := 12) (q0 := 0) rfl rfl, fun U hU hW => xr_mk hU hW hPc hK⟩ rfl rfl hl.1 rfl (lv_room (Nat.le_of_ble_eq_true rfl)) dX12_trade_84 ⟨Nat.le_of_ble_eq_true rfl, Nat.le_of_ble_eq_true rfl⟩).run (fun r84 hr84 => ?_)
                clear hPc
                clear hr84
                refine lv_istore_n (lv' := [(3, .int r84), (2, .int v18_4), (4, .int v18_4), (0, .ref MO), (1, .int x0)]) hx hb dX12_trade_87 rfl hl (by decide) rfl (fun ls hl => ?_)
                exact j88 ls r84 v18_4 (zB_w bx22f_v18_4 (by decide) (by decide)) sMO_things_0_k18 sMO_all_0_k18 (lv_sub hl [2, 0, 1, 3, 4] rfl)
              · refine lv_goto (tgt := 88) hx hb dX12_trade_67 (by decide) ?_
                exact j88 ls v18_3 v18_2 bv18_2_k18 sMO_things_0_k18 sMO_all_0_k18 (lv_sub hl [0, 1, 2, 3, 4] rfl)
    refine lv_istore (lv' := [(4, .int 0), (3, .int (-1)), (2, .int (-1)), (0, .ref MO), (1, .int x0)]) hx hb dX12_trade_16 hl (by decide) rfl (fun ls hl => ?_)
    exact j18 37 ls 0 (-1) (-1) (zB_w (show zB 0 0 0 from ⟨by decide, by decide⟩) (by decide) (by decide)) (zB_w (show zB (-1) (-1) (-1) from ⟨by decide, by decide⟩) (by decide) (by decide)) s_MO_things_0 s_MO_all_0 (zM_ui (show zB 0 0 0 from ⟨by decide, by decide⟩) (by decide)) (lv_sub hl [0, 1, 2, 3, 4] rfl)
set_option maxHeartbeats 4000000 in
set_option maxRecDepth 100000 in
theorem c_X12_trades (l : Launch) (D : va_G) (cI : ClassId) (cB : ClassId) (cL : ClassId) (cZ : ClassId) (cG : ClassId) (MO : Nat) (aMO : Nat → Nat) (MO_taped : Int32) (MO_size : Int32) (MO_faultKind : Int32) (MO_faultPlace : Int32) (MO_at : Int32) (MO_end : Int32) (MO_token : Int32) (MO_number : Int32) (MO_name : Int64) (MO_bank : Int32) (MO_rb : Int32) (MO_codes : Int32) (MO_within : Int32) (MO_piled : Int32) (MO_unitsInRule : Int32) (MO_askThing : Int32) (MO_acts : Int32) (MO_undone : Int32) (MO_laid : Int32) (MO_heards : Int32) (MO_time : Int32) (MO_taken : Nat → Int32) (MO_things : Nat → Int32) (MO_all : Nat → Int32) (MO_toThem : Nat → Int32) (MO_toUs : Nat → Int32) (sz : Nat) (b_MO_taped : zB MO_taped 0 1600) (b_MO_size : zB MO_size 0 1600) (b_MO_faultKind : zB MO_faultKind 0 5) (b_MO_at : zB MO_at 0 1600) (b_MO_end : zB MO_end 0 1600) (b_MO_token : zB MO_token 0 5) (b_MO_bank : zB MO_bank 0 1) (b_MO_rb : zB MO_rb 0 1) (b_MO_codes : zB MO_codes 0 1120) (b_MO_within : zB MO_within 0 7) (b_MO_piled : zB MO_piled 0 89) (b_MO_unitsInRule : zB MO_unitsInRule 0 30) (b_MO_askThing : zB MO_askThing 0 5) (b_MO_acts : zB MO_acts 0 40) (b_MO_undone : zB MO_undone 0 40) (b_MO_laid : zB MO_laid 0 8) (b_MO_heards : zB MO_heards 0 30) (b_MO_time : zB MO_time 0 100000) (s_MO_things_0 : zA MO_things 0 2 0 6) (s_MO_all_0 : zA MO_all 0 12 0 7) : Met l yX12_trades wsX12_trades ({ frames := 2, cells := 0, slots := 0, locals := 46 }) (xp D [(cI, .int), (cB, .byte), (cL, .long), (cZ, .boolean), (cG, .array .int)] [(MO, .inr (12, oX12 aMO MO_taped MO_size MO_faultKind MO_faultPlace MO_at MO_end MO_token MO_number MO_name MO_bank MO_rb MO_codes MO_within MO_piled MO_unitsInRule MO_askThing MO_acts MO_undone MO_laid MO_heards MO_time)), ((aMO 57), .inl (cI, 64, .inl MO_taken)), ((aMO 13), .inl (cI, 2, .inl MO_things)), ((aMO 42), .inl (cI, 32, .inl MO_all)), ((aMO 23), .inl (cI, 12, .inl MO_toThem)), ((aMO 22), .inl (cI, 12, .inl MO_toUs))] sz [] [.ref MO]) (va_Qi (fun (r : Int32) (_ : Unit) => True) (fun (_ : Unit) (t : State) => ∃ (nMOtaken : Nat → Int32), xB D (va_A [(MO, .inr (12, oX12 aMO MO_taped MO_size MO_faultKind MO_faultPlace MO_at MO_end MO_token MO_number MO_name MO_bank MO_rb MO_codes MO_within MO_piled MO_unitsInRule MO_askThing MO_acts MO_undone MO_laid MO_heards MO_time)), ((aMO 57), .inl (cI, 64, .inl MO_taken)), ((aMO 13), .inl (cI, 2, .inl MO_things)), ((aMO 42), .inl (cI, 32, .inl MO_all)), ((aMO 23), .inl (cI, 12, .inl MO_toThem)), ((aMO 22), .inl (cI, 12, .inl MO_toUs))] sz) [(MO, .inr (12, oX12 aMO MO_taped MO_size MO_faultKind MO_faultPlace MO_at MO_end MO_token MO_number MO_name MO_bank MO_rb MO_codes MO_within MO_piled MO_unitsInRule MO_askThing MO_acts MO_undone MO_laid MO_heards MO_time)), ((aMO 57), .inl (cI, 64, .inl nMOtaken)), ((aMO 13), .inl (cI, 2, .inl MO_things)), ((aMO 42), .inl (cI, 32, .inl MO_all)), ((aMO 23), .inl (cI, 12, .inl MO_toThem)), ((aMO 22), .inl (cI, 12, .inl MO_toUs))] t) (va_A [(MO, .inr (12, oX12 aMO MO_taped MO_size MO_faultKind MO_faultPlace MO_at MO_end MO_token MO_number MO_name MO_bank MO_rb MO_codes MO_within MO_piled MO_unitsInRule MO_askThing MO_acts MO_undone MO_laid MO_heards MO_time)), ((aMO 57), .inl (cI, 64, .inl MO_taken)), ((aMO 13), .inl (cI, 2, .inl MO_things)), ((aMO 42), .inl (cI, 32, .inl MO_all)), ((aMO 23), .inl (cI, 12, .inl MO_toThem)), ((aMO 22), .inl (cI, 12, .inl MO_toUs))] sz)) 0 0 (va_A [(MO, .inr (12, oX12 aMO MO_taped MO_size MO_faultKind MO_faultPlace MO_at MO_end MO_token MO_number MO_name MO_bank MO_rb MO_codes MO_within MO_piled MO_unitsInRule MO_askThing MO_acts MO_undone MO_laid MO_heards MO_time)), ((aMO 57), .inl (cI, 64, .inl MO_taken)), ((aMO 13), .inl (cI, 2, .inl MO_things)), ((aMO 42), .inl (cI, 32, .inl MO_all)), ((aMO 23), .inl (cI, 12, .inl MO_toThem)), ((aMO 22), .inl (cI, 12, .inl MO_toUs))] sz) := by
  refine Met.ofW (cc := cX12_trades) (maxL := 5) (ret := (some .int)) (by decide) rfl ?_
  intro p e s m args below meth c s₁ B hml hv
  obtain ⟨rfl, hsz, hP, hK, hD0, hNw⟩ := hv
  have hx := B.exec
  have hb := B.bytes
  have hr := B.returns
  have hts := atoms_spec (ws := wsX12_trades) B.pre
  have hown : s.vm.findClass RX12 = some m.cls := findClass_of_methodNamed B.named
  have hlocks := B.notSynchronized
  clear B
  subst hsz
  have hD := hD0.self (sz := s.heap.size)
  clear hD0 hNw
  generalize hAe : va_A [(MO, .inr (12, oX12 aMO MO_taped MO_size MO_faultKind MO_faultPlace MO_at MO_end MO_token MO_number MO_name MO_bank MO_rb MO_codes MO_within MO_piled MO_unitsInRule MO_askThing MO_acts MO_undone MO_laid MO_heards MO_time)), ((aMO 57), .inl (cI, 64, .inl MO_taken)), ((aMO 13), .inl (cI, 2, .inl MO_things)), ((aMO 42), .inl (cI, 32, .inl MO_all)), ((aMO 23), .inl (cI, 12, .inl MO_toThem)), ((aMO 22), .inl (cI, 12, .inl MO_toUs))] s.heap.size = A at hD ⊢
  have hA : ∀ q : Nat, s.heap.size ≤ q → A q := fun q h => by rw [← hAe]; exact Or.inr h
  have hS : va_S A s.heap s.heap [] := va_S.rf
  clear hAe
  obtain ⟨H, hH⟩ : ∃ H : Heap, H = s.heap := ⟨_, rfl⟩
  obtain ⟨locs, hlocs⟩ : ∃ L : List Loc, L = [] := ⟨_, rfl⟩
  replace hP : va_P D classes [(MO, .inr (12, oX12 aMO MO_taped MO_size MO_faultKind MO_faultPlace MO_at MO_end MO_token MO_number MO_name MO_bank MO_rb MO_codes MO_within MO_piled MO_unitsInRule MO_askThing MO_acts MO_undone MO_laid MO_heards MO_time)), ((aMO 57), .inl (cI, 64, .inl MO_taken)), ((aMO 13), .inl (cI, 2, .inl MO_things)), ((aMO 42), .inl (cI, 32, .inl MO_all)), ((aMO 23), .inl (cI, 12, .inl MO_toThem)), ((aMO 22), .inl (cI, 12, .inl MO_toUs))] H := by rw [hH]; exact hP
  replace hS : va_S A s.heap H locs := by rw [hH, hlocs]; exact hS
  rw [← hH, ← hlocs]
  clear hlocs hH
  have hl := lv_entry ([.ref MO]) (n := 5) (Nat.le_of_ble_eq_true rfl)
  rw [lg_entry_eq]
  generalize (lg_sl ([.ref MO]) ++ List.replicate (5 - (lg_sl ([.ref MO])).length) Slot.unset).toArray = ls at hl ⊢
  replace hl : lv_has ls 5 [(0, .ref MO)] := hl
  refine zz_abs (R := ({ frames := 2, cells := 0, slots := 0, locals := 46 } : Room)) (fun Q up => ?_)
  refine lv_iconst (v := 0) hx hb dX12_trades_0 (by decide) ?_
  have j2 : ∀ (n2 : Nat) (H : Heap) (locs : List Loc) (ls : Array Slot) (v2_1 : Int32) (g2_aMO57 : Nat → Int32), zB v2_1 0 64 → zA MO_things 0 2 0 6 → zA MO_all 0 12 0 7 → (64 + 1 - v2_1.toInt) ≤ (n2 : Int) → va_P D classes [(MO, .inr (12, oX12 aMO MO_taped MO_size MO_faultKind MO_faultPlace MO_at MO_end MO_token MO_number MO_name MO_bank MO_rb MO_codes MO_within MO_piled MO_unitsInRule MO_askThing MO_acts MO_undone MO_laid MO_heards MO_time)), ((aMO 57), .inl (cI, 64, .inl g2_aMO57)), ((aMO 13), .inl (cI, 2, .inl MO_things)), ((aMO 42), .inl (cI, 32, .inl MO_all)), ((aMO 23), .inl (cI, 12, .inl MO_toThem)), ((aMO 22), .inl (cI, 12, .inl MO_toUs))] H → va_D A [(MO, .inr (12, oX12 aMO MO_taped MO_size MO_faultKind MO_faultPlace MO_at MO_end MO_token MO_number MO_name MO_bank MO_rb MO_codes MO_within MO_piled MO_unitsInRule MO_askThing MO_acts MO_undone MO_laid MO_heards MO_time)), ((aMO 57), .inl (cI, 64, .inl g2_aMO57)), ((aMO 13), .inl (cI, 2, .inl MO_things)), ((aMO 42), .inl (cI, 32, .inl MO_all)), ((aMO 23), .inl (cI, 12, .inl MO_toThem)), ((aMO 22), .inl (cI, 12, .inl MO_toUs))] → va_S A s.heap H locs → lv_has ls 5 [(1, .int v2_1), (0, .ref MO)] → W p l e ({ frames := 2, cells := 0, slots := 0, locals := 46 } : Room) s m ([.ref MO] : List Value).toArray below meth c H locs 0 0 Q (F0 m 2 ls []) := by
    intro n2
    induction n2 with
    | zero => intro H locs ls v2_1 g2_aMO57 bv2_1_k2 sMO_things_0_k2 sMO_all_0_k2 hm2 hP hD hS hl; exact zM_u0 bv2_1_k2 hm2
    | succ n2 ih2 =>
      intro H locs ls v2_1 g2_aMO57 bv2_1_k2 sMO_things_0_k2 sMO_all_0_k2 hm2 hP hD hS hl
      refine lv_iload_n hx hb dX12_trades_2 rfl (lv_at hl 0 rfl) ?_
      refine lv_bipush (v := 64) hx hb dX12_trades_3 (by decide) ?_
      refine lv_icmp_ge (tgt := 29) hx hb dX12_trades_5 (by decide) (fun c5 => ?_) (fun c5 => ?_)
      · have by5t_v2_1 : zB v2_1 64 64 := zB_lev (ze c5) (show zB 64 64 64 from ⟨by decide, by decide⟩) bv2_1_k2 (by decide)
        refine lv_iconst (v := 0) hx hb dX12_trades_29 (by decide) ?_
        have j31 : ∀ (n31 : Nat) (H : Heap) (locs : List Loc) (ls : Array Slot) (v31_1 : Int32) (g31_aMO57 : Nat → Int32), zB v31_1 0 6 → zA MO_things 0 2 0 6 → zA MO_all 0 12 0 7 → (6 + 1 - v31_1.toInt) ≤ (n31 : Int) → va_P D classes [(MO, .inr (12, oX12 aMO MO_taped MO_size MO_faultKind MO_faultPlace MO_at MO_end MO_token MO_number MO_name MO_bank MO_rb MO_codes MO_within MO_piled MO_unitsInRule MO_askThing MO_acts MO_undone MO_laid MO_heards MO_time)), ((aMO 57), .inl (cI, 64, .inl g31_aMO57)), ((aMO 13), .inl (cI, 2, .inl MO_things)), ((aMO 42), .inl (cI, 32, .inl MO_all)), ((aMO 23), .inl (cI, 12, .inl MO_toThem)), ((aMO 22), .inl (cI, 12, .inl MO_toUs))] H → va_D A [(MO, .inr (12, oX12 aMO MO_taped MO_size MO_faultKind MO_faultPlace MO_at MO_end MO_token MO_number MO_name MO_bank MO_rb MO_codes MO_within MO_piled MO_unitsInRule MO_askThing MO_acts MO_undone MO_laid MO_heards MO_time)), ((aMO 57), .inl (cI, 64, .inl g31_aMO57)), ((aMO 13), .inl (cI, 2, .inl MO_things)), ((aMO 42), .inl (cI, 32, .inl MO_all)), ((aMO 23), .inl (cI, 12, .inl MO_toThem)), ((aMO 22), .inl (cI, 12, .inl MO_toUs))] → va_S A s.heap H locs → lv_has ls 5 [(1, .int v31_1), (0, .ref MO)] → W p l e ({ frames := 2, cells := 0, slots := 0, locals := 46 } : Room) s m ([.ref MO] : List Value).toArray below meth c H locs 0 0 Q (F0 m 31 ls []) := by
          intro n31
          induction n31 with
          | zero => intro H locs ls v31_1 g31_aMO57 bv31_1_k31 sMO_things_0_k31 sMO_all_0_k31 hm31 hP hD hS hl; exact zM_u0 bv31_1_k31 hm31
          | succ n31 ih31 =>
            intro H locs ls v31_1 g31_aMO57 bv31_1_k31 sMO_things_0_k31 sMO_all_0_k31 hm31 hP hD hS hl
            refine lv_iload_n hx hb dX12_trades_31 rfl (lv_at hl 0 rfl) ?_
            refine lv_aload_n hx hb dX12_trades_32 rfl (lv_at hl 1 rfl) ?_
            have hPc := hP.sub (ws' := [(MO, .inr (12, oX12 aMO MO_taped MO_size MO_faultKind MO_faultPlace MO_at MO_end MO_token MO_number MO_name MO_bank MO_rb MO_codes MO_within MO_piled MO_unitsInRule MO_askThing MO_acts MO_undone MO_laid MO_heards MO_time)), ((aMO 13), .inl (cI, 2, .inl MO_things))]) [0, 2] rfl
            refine vp_callSi (va_runV (As := []) (rest := [.int v31_1]) ⟨hx, hb, hml, hown, hts⟩ (c_X12_many l D cI cB cL cZ cG MO aMO MO_taped MO_size MO_faultKind MO_faultPlace MO_at MO_end MO_token MO_number MO_name MO_bank MO_rb MO_codes MO_within MO_piled MO_unitsInRule MO_askThing MO_acts MO_undone MO_laid MO_heards MO_time MO_things b_MO_taped b_MO_size b_MO_faultKind b_MO_at b_MO_end b_MO_token b_MO_bank b_MO_rb b_MO_codes b_MO_within b_MO_piled b_MO_unitsInRule b_MO_askThing b_MO_acts b_MO_undone b_MO_laid b_MO_heards b_MO_time sMO_things_0_k31) (cwV 0 hts gX12_trades_X12_many rfl rfl rfl (by decide +kernel) ⟨Nat.le_of_ble_eq_true rfl, Nat.le_of_ble_eq_true rfl⟩) ⟨xr_blind, va_recv hK hP (ci := 12) (q0 := 0) rfl rfl, fun U hU hW => xr_mk hU hW hPc hK⟩ rfl rfl hl.1 rfl (lv_room (Nat.le_of_ble_eq_true rfl)) dX12_trades_33 ⟨Nat.le_of_ble_eq_true rfl, Nat.le_of_ble_eq_true rfl⟩).run (fun r33 hr33 => ?_)
            obtain ⟨hr33, p33_v, p33_i⟩ := hr33
            clear hPc
            refine lv_icmp_ge (tgt := 137) hx hb dX12_trades_36 (by decide) (fun c36 => ?_) (fun c36 => ?_)
            · refine lv_iconst (v := 0) hx hb dX12_trades_137 (by decide) ?_
              refine lv_istore_n (lv' := [(1, .int 0), (0, .ref MO)]) hx hb dX12_trades_138 rfl hl (by decide) rfl (fun ls hl => ?_)
              refine lv_iconst (v := 0) hx hb dX12_trades_139 (by decide) ?_
              have j141 : ∀ (n141 : Nat) (H : Heap) (locs : List Loc) (ls : Array Slot) (v141_2 : Int32) (v141_1 : Int32), zB v141_2 0 64 → zA MO_things 0 2 0 6 → zA MO_all 0 12 0 7 → (64 + 1 - v141_2.toInt) ≤ (n141 : Int) → va_P D classes [(MO, .inr (12, oX12 aMO MO_taped MO_size MO_faultKind MO_faultPlace MO_at MO_end MO_token MO_number MO_name MO_bank MO_rb MO_codes MO_within MO_piled MO_unitsInRule MO_askThing MO_acts MO_undone MO_laid MO_heards MO_time)), ((aMO 57), .inl (cI, 64, .inl g31_aMO57)), ((aMO 13), .inl (cI, 2, .inl MO_things)), ((aMO 42), .inl (cI, 32, .inl MO_all)), ((aMO 23), .inl (cI, 12, .inl MO_toThem)), ((aMO 22), .inl (cI, 12, .inl MO_toUs))] H → va_D A [(MO, .inr (12, oX12 aMO MO_taped MO_size MO_faultKind MO_faultPlace MO_at MO_end MO_token MO_number MO_name MO_bank MO_rb MO_codes MO_within MO_piled MO_unitsInRule MO_askThing MO_acts MO_undone MO_laid MO_heards MO_time)), ((aMO 57), .inl (cI, 64, .inl g31_aMO57)), ((aMO 13), .inl (cI, 2, .inl MO_things)), ((aMO 42), .inl (cI, 32, .inl MO_all)), ((aMO 23), .inl (cI, 12, .inl MO_toThem)), ((aMO 22), .inl (cI, 12, .inl MO_toUs))] → va_S A s.heap H locs → lv_has ls 5 [(2, .int v141_2), (1, .int v141_1), (0, .ref MO)] → W p l e ({ frames := 2, cells := 0, slots := 0, locals := 46 } : Room) s m ([.ref MO] : List Value).toArray below meth c H locs 0 0 Q (F0 m 141 ls []) := by
                intro n141
                induction n141 with
                | zero => intro H locs ls v141_2 v141_1 bv141_2_k141 sMO_things_0_k141 sMO_all_0_k141 hm141 hP hD hS hl; exact zM_u0 bv141_2_k141 hm141
                | succ n141 ih141 =>
                  intro H locs ls v141_2 v141_1 bv141_2_k141 sMO_things_0_k141 sMO_all_0_k141 hm141 hP hD hS hl
                  refine lv_iload_n hx hb dX12_trades_141 rfl (lv_at hl 0 rfl) ?_
                  refine lv_bipush (v := 64) hx hb dX12_trades_142 (by decide) ?_
                  refine lv_icmp_ge (tgt := 170) hx hb dX12_trades_144 (by decide) (fun c144 => ?_) (fun c144 => ?_)
                  · have by144t_v141_2 : zB v141_2 64 64 := zB_lev (ze c144) (show zB 64 64 64 from ⟨by decide, by decide⟩) bv141_2_k141 (by decide)
                    refine lv_iload_n hx hb dX12_trades_170 rfl (lv_at hl 1 rfl) ?_
                    exact up _ _ _ (W.iret (v := v141_1) hx hb hr (fun t ht hW => ⟨⟨v141_1, (), rfl, trivial, ⟨g31_aMO57, by rw [ht]; exact hP, hD⟩⟩, hS.F ht⟩) hS.2.2 dX12_trades_171)
                  · have bx144f_v141_2 : zB v141_2 0 63 := zB_ltu (zf c144) bv141_2_k141 (show zB 64 64 64 from ⟨by decide, by decide⟩) (by decide)
                    refine lv_aload_n hx hb dX12_trades_147 rfl (lv_at hl 2 rfl) ?_
                    refine va_get (D := D) (ci := 12) (v := .ref (aMO 57)) (C := RX12) (T := TX12) (N := 71) hx hb hts iw_X12_trades_X12 hown hK hP 0 rfl rfl 57 (by decide) (hts (.fieldLink RX12 131 "SoldHouseModel" "taken" "[I") (List.mem_of_getElem? (i := 1) rfl)) (fun _ h9 => h9) rfl dX12_trades_148 ?_
                    refine lv_iload_n hx hb dX12_trades_151 rfl (lv_at hl 0 rfl) ?_
                    refine va_iald hx hb hK hP 1 0 rfl rfl (zB_in bx144f_v141_2 (by decide) (by decide)) dX12_trades_152 ?_
                    refine lv_topi (fun y152 _ => ?_)
                    refine lv_iload_n hx hb dX12_trades_153 rfl (lv_at hl 1 rfl) ?_
                    have j164 : ∀ (H : Heap) (locs : List Loc) (ls : Array Slot) (v164_1 : Int32), zA MO_things 0 2 0 6 → zA MO_all 0 12 0 7 → va_P D classes [(MO, .inr (12, oX12 aMO MO_taped MO_size MO_faultKind MO_faultPlace MO_at MO_end MO_token MO_number MO_name MO_bank MO_rb MO_codes MO_within MO_piled MO_unitsInRule MO_askThing MO_acts MO_undone MO_laid MO_heards MO_time)), ((aMO 57), .inl (cI, 64, .inl g31_aMO57)), ((aMO 13), .inl (cI, 2, .inl MO_things)), ((aMO 42), .inl (cI, 32, .inl MO_all)), ((aMO 23), .inl (cI, 12, .inl MO_toThem)), ((aMO 22), .inl (cI, 12, .inl MO_toUs))] H → va_D A [(MO, .inr (12, oX12 aMO MO_taped MO_size MO_faultKind MO_faultPlace MO_at MO_end MO_token MO_number MO_name MO_bank MO_rb MO_codes MO_within MO_piled MO_unitsInRule MO_askThing MO_acts MO_undone MO_laid MO_heards MO_time)), ((aMO 57), .inl (cI, 64, .inl g31_aMO57)), ((aMO 13), .inl (cI, 2, .inl MO_things)), ((aMO 42), .inl (cI, 32, .inl MO_all)), ((aMO 23), .inl (cI, 12, .inl MO_toThem)), ((aMO 22), .inl (cI, 12, .inl MO_toUs))] → va_S A s.heap H locs → lv_has ls 5 [(2, .int v141_2), (1, .int v164_1), (0, .ref MO)] → W p l e ({ frames := 2, cells := 0, slots := 0, locals := 46 } : Room) s m ([.ref MO] : List Value).toArray below meth c H locs 0 0 Q (F0 m 164 ls []) := by
                      intro H locs ls v164_1 sMO_things_0_k164 sMO_all_0_k164 hP hD hS hl
                      obtain ⟨y164, by164, ry164, ey164⟩ := zi_inc (x := v141_2) (k := 1) (a := 1) (b := 64) bx144f_v141_2 (by decide) (by decide) (by decide) (by decide) (by decide)
                      refine lv_iinc (v := y164) (lv' := [(2, .int y164), (1, .int v164_1), (0, .ref MO)]) hx hb dX12_trades_164 hl (k := 0) rfl ey164 (by decide) rfl (fun ls hl => ?_)
                      refine lv_goto (tgt := 141) hx hb dX12_trades_167 (by decide) ?_
                      exact ih141 H locs ls y164 v164_1 (zB_w by164 (by decide) (by decide)) sMO_things_0_k164 sMO_all_0_k164 (zM_us (k := 1) hm141 ry164 (by decide)) hP hD hS (lv_sub hl [0, 1, 2] rfl)
                    refine lv_icmp_le (tgt := 164) hx hb dX12_trades_154 (by decide) (fun c154 => ?_) (fun c154 => ?_)
                    · exact j164 H locs ls v141_1 sMO_things_0_k141 sMO_all_0_k141 hP hD hS (lv_sub hl [0, 1, 2] rfl)
                    · have bx154f_v141_1 : zB v141_1 (-2147483648) 2147483646 := zB_ltu (zf c154) (zB_top v141_1) (zB_top y152) (by decide)
                      have by154f_y152 : zB y152 (-2147483647) 2147483647 := zB_ltv (zf c154) bx154f_v141_1 (zB_top y152) (by decide)
                      refine lv_aload_n hx hb dX12_trades_157 rfl (lv_at hl 2 rfl) ?_
                      refine va_get (D := D) (ci := 12) (v := .ref (aMO 57)) (C := RX12) (T := TX12) (N := 71) hx hb hts iw_X12_trades_X12 hown hK hP 0 rfl rfl 57 (by decide) (hts (.fieldLink RX12 131 "SoldHouseModel" "taken" "[I") (List.mem_of_getElem? (i := 1) rfl)) (fun _ h9 => h9) rfl dX12_trades_158 ?_
                      refine lv_iload_n hx hb dX12_trades_161 rfl (lv_at hl 0 rfl) ?_
                      refine va_iald hx hb hK hP 1 0 rfl rfl (zB_in bx144f_v141_2 (by decide) (by decide)) dX12_trades_162 ?_
                      refine lv_topi (fun y162 _ => ?_)
                      refine lv_istore_n (lv' := [(1, .int y162), (2, .int v141_2), (0, .ref MO)]) hx hb dX12_trades_163 rfl hl (by decide) rfl (fun ls hl => ?_)
                      exact j164 H locs ls y162 sMO_things_0_k141 sMO_all_0_k141 hP hD hS (lv_sub hl [1, 0, 2] rfl)
              refine lv_istore_n (lv' := [(2, .int 0), (1, .int 0), (0, .ref MO)]) hx hb dX12_trades_140 rfl hl (by decide) rfl (fun ls hl => ?_)
              exact j141 65 H locs ls 0 0 (zB_w (show zB 0 0 0 from ⟨by decide, by decide⟩) (by decide) (by decide)) sMO_things_0_k31 sMO_all_0_k31 (zM_ui (show zB 0 0 0 from ⟨by decide, by decide⟩) (by decide)) hP hD hS (lv_sub hl [0, 1, 2] rfl)
            · have bx36f_v31_1 : zB v31_1 0 5 := zB_ltu (zf c36) bv31_1_k31 hr33 (by decide)
              have by36f_r33 : zB r33 1 6 := zB_ltv (zf c36) bx36f_v31_1 hr33 (by decide)
              refine lv_bipush (v := 63) hx hb dX12_trades_39 (by decide) ?_
              have j42 : ∀ (n42 : Nat) (H : Heap) (locs : List Loc) (ls : Array Slot) (v42_2 : Int32) (g42_aMO57 : Nat → Int32), zB v42_2 (-1) 63 → zA MO_things 0 2 0 6 → zA MO_all 0 12 0 7 → (v42_2.toInt - (-1) + 1) ≤ (n42 : Int) → va_P D classes [(MO, .inr (12, oX12 aMO MO_taped MO_size MO_faultKind MO_faultPlace MO_at MO_end MO_token MO_number MO_name MO_bank MO_rb MO_codes MO_within MO_piled MO_unitsInRule MO_askThing MO_acts MO_undone MO_laid MO_heards MO_time)), ((aMO 57), .inl (cI, 64, .inl g42_aMO57)), ((aMO 13), .inl (cI, 2, .inl MO_things)), ((aMO 42), .inl (cI, 32, .inl MO_all)), ((aMO 23), .inl (cI, 12, .inl MO_toThem)), ((aMO 22), .inl (cI, 12, .inl MO_toUs))] H → va_D A [(MO, .inr (12, oX12 aMO MO_taped MO_size MO_faultKind MO_faultPlace MO_at MO_end MO_token MO_number MO_name MO_bank MO_rb MO_codes MO_within MO_piled MO_unitsInRule MO_askThing MO_acts MO_undone MO_laid MO_heards MO_time)), ((aMO 57), .inl (cI, 64, .inl g42_aMO57)), ((aMO 13), .inl (cI, 2, .inl MO_things)), ((aMO 42), .inl (cI, 32, .inl MO_all)), ((aMO 23), .inl (cI, 12, .inl MO_toThem)), ((aMO 22), .inl (cI, 12, .inl MO_toUs))] → va_S A s.heap H locs → lv_has ls 5 [(2, .int v42_2), (1, .int v31_1), (0, .ref MO)] → W p l e ({ frames := 2, cells := 0, slots := 0, locals := 46 } : Room) s m ([.ref MO] : List Value).toArray below meth c H locs 0 0 Q (F0 m 42 ls []) := by
                intro n42
                induction n42 with
                | zero => intro H locs ls v42_2 g42_aMO57 bv42_2_k42 sMO_things_0_k42 sMO_all_0_k42 hm42 hP hD hS hl; exact zM_d0 bv42_2_k42 hm42
                | succ n42 ih42 =>
                  intro H locs ls v42_2 g42_aMO57 bv42_2_k42 sMO_things_0_k42 sMO_all_0_k42 hm42 hP hD hS hl
                  refine lv_iload_n hx hb dX12_trades_42 rfl (lv_at hl 0 rfl) ?_
                  refine lv_if_lt (tgt := 131) hx hb dX12_trades_43 (by decide) (fun c43 => ?_) (fun c43 => ?_)
                  · have bx43t_v42_2 : zB v42_2 (-1) (-1) := zB_ltu (zl c43) bv42_2_k42 (show zB 0 0 0 from ⟨by decide, by decide⟩) (by decide)
                    obtain ⟨y131, by131, ry131, ey131⟩ := zi_inc (x := v31_1) (k := 1) (a := 1) (b := 6) bx36f_v31_1 (by decide) (by decide) (by decide) (by decide) (by decide)
                    refine lv_iinc (v := y131) (lv' := [(1, .int y131), (2, .int v42_2), (0, .ref MO)]) hx hb dX12_trades_131 hl (k := 1) rfl ey131 (by decide) rfl (fun ls hl => ?_)
                    refine lv_goto (tgt := 31) hx hb dX12_trades_134 (by decide) ?_
                    exact ih31 H locs ls y131 g42_aMO57 (zB_w by131 (by decide) (by decide)) sMO_things_0_k42 sMO_all_0_k42 (zM_us (k := 1) hm31 ry131 (by decide)) hP hD hS (lv_sub hl [0, 2] rfl)
                  · have by43f_v42_2 : zB v42_2 0 63 := zB_lev (zg c43) (show zB 0 0 0 from ⟨by decide, by decide⟩) bv42_2_k42 (by decide)
                    refine lv_iconst (v := 0) hx hb dX12_trades_46 (by decide) ?_
                    have j48 : ∀ (n48 : Nat) (H : Heap) (locs : List Loc) (ls : Array Slot) (v48_3 : Int32) (g48_aMO57 : Nat → Int32), zB v48_3 0 6 → zA MO_things 0 2 0 6 → zA MO_all 0 12 0 7 → (6 + 1 - v48_3.toInt) ≤ (n48 : Int) → va_P D classes [(MO, .inr (12, oX12 aMO MO_taped MO_size MO_faultKind MO_faultPlace MO_at MO_end MO_token MO_number MO_name MO_bank MO_rb MO_codes MO_within MO_piled MO_unitsInRule MO_askThing MO_acts MO_undone MO_laid MO_heards MO_time)), ((aMO 57), .inl (cI, 64, .inl g48_aMO57)), ((aMO 13), .inl (cI, 2, .inl MO_things)), ((aMO 42), .inl (cI, 32, .inl MO_all)), ((aMO 23), .inl (cI, 12, .inl MO_toThem)), ((aMO 22), .inl (cI, 12, .inl MO_toUs))] H → va_D A [(MO, .inr (12, oX12 aMO MO_taped MO_size MO_faultKind MO_faultPlace MO_at MO_end MO_token MO_number MO_name MO_bank MO_rb MO_codes MO_within MO_piled MO_unitsInRule MO_askThing MO_acts MO_undone MO_laid MO_heards MO_time)), ((aMO 57), .inl (cI, 64, .inl g48_aMO57)), ((aMO 13), .inl (cI, 2, .inl MO_things)), ((aMO 42), .inl (cI, 32, .inl MO_all)), ((aMO 23), .inl (cI, 12, .inl MO_toThem)), ((aMO 22), .inl (cI, 12, .inl MO_toUs))] → va_S A s.heap H locs → lv_has ls 5 [(3, .int v48_3), (2, .int v42_2), (1, .int v31_1), (0, .ref MO)] → W p l e ({ frames := 2, cells := 0, slots := 0, locals := 46 } : Room) s m ([.ref MO] : List Value).toArray below meth c H locs 0 0 Q (F0 m 48 ls []) := by
                      intro n48
                      induction n48 with
                      | zero => intro H locs ls v48_3 g48_aMO57 bv48_3_k48 sMO_things_0_k48 sMO_all_0_k48 hm48 hP hD hS hl; exact zM_u0 bv48_3_k48 hm48
                      | succ n48 ih48 =>
                        intro H locs ls v48_3 g48_aMO57 bv48_3_k48 sMO_things_0_k48 sMO_all_0_k48 hm48 hP hD hS hl
                        refine lv_iload_n hx hb dX12_trades_48 rfl (lv_at hl 0 rfl) ?_
                        refine lv_aload_n hx hb dX12_trades_49 rfl (lv_at hl 3 rfl) ?_
                        have hPc := hP.sub (ws' := [(MO, .inr (12, oX12 aMO MO_taped MO_size MO_faultKind MO_faultPlace MO_at MO_end MO_token MO_number MO_name MO_bank MO_rb MO_codes MO_within MO_piled MO_unitsInRule MO_askThing MO_acts MO_undone MO_laid MO_heards MO_time)), ((aMO 13), .inl (cI, 2, .inl MO_things))]) [0, 2] rfl
                        refine vp_callSi (va_runV (As := []) (rest := [.int v48_3]) ⟨hx, hb, hml, hown, hts⟩ (c_X12_many l D cI cB cL cZ cG MO aMO MO_taped MO_size MO_faultKind MO_faultPlace MO_at MO_end MO_token MO_number MO_name MO_bank MO_rb MO_codes MO_within MO_piled MO_unitsInRule MO_askThing MO_acts MO_undone MO_laid MO_heards MO_time MO_things b_MO_taped b_MO_size b_MO_faultKind b_MO_at b_MO_end b_MO_token b_MO_bank b_MO_rb b_MO_codes b_MO_within b_MO_piled b_MO_unitsInRule b_MO_askThing b_MO_acts b_MO_undone b_MO_laid b_MO_heards b_MO_time sMO_things_0_k48) (cwV 0 hts gX12_trades_X12_many rfl rfl rfl (by decide +kernel) ⟨Nat.le_of_ble_eq_true rfl, Nat.le_of_ble_eq_true rfl⟩) ⟨xr_blind, va_recv hK hP (ci := 12) (q0 := 0) rfl rfl, fun U hU hW => xr_mk hU hW hPc hK⟩ rfl rfl hl.1 rfl (lv_room (Nat.le_of_ble_eq_true rfl)) dX12_trades_50 ⟨Nat.le_of_ble_eq_true rfl, Nat.le_of_ble_eq_true rfl⟩).run (fun r50 hr50 => ?_)
                        obtain ⟨hr50, p50_v, p50_i⟩ := hr50
                        clear hPc
                        refine lv_icmp_ge (tgt := 125) hx hb dX12_trades_53 (by decide) (fun c53 => ?_) (fun c53 => ?_)
                        · obtain ⟨y125, by125, ry125, ey125⟩ := zi_inc (x := v42_2) (k := (-1)) (a := (-1)) (b := 62) by43f_v42_2 (by decide) (by decide) (by decide) (by decide) (by decide)
                          refine lv_iinc (v := y125) (lv' := [(2, .int y125), (3, .int v48_3), (1, .int v31_1), (0, .ref MO)]) hx hb dX12_trades_125 hl (k := 1) rfl ey125 (by decide) rfl (fun ls hl => ?_)
                          refine lv_goto (tgt := 42) hx hb dX12_trades_128 (by decide) ?_
                          exact ih42 H locs ls y125 g48_aMO57 (zB_w by125 (by decide) (by decide)) sMO_things_0_k48 sMO_all_0_k48 (zM_ds (k := 1) hm42 ry125 (by decide)) hP hD hS (lv_sub hl [0, 2, 3] rfl)
                        · have bx53f_v48_3 : zB v48_3 0 5 := zB_ltu (zf c53) bv48_3_k48 hr50 (by decide)
                          have by53f_r50 : zB r50 1 6 := zB_ltv (zf c53) bx53f_v48_3 hr50 (by decide)
                          refine lv_iload_n hx hb dX12_trades_56 rfl (lv_at hl 1 rfl) ?_
                          refine lv_iload_n hx hb dX12_trades_57 rfl (lv_at hl 0 rfl) ?_
                          have hPc := hP.sub (ws' := []) [] rfl
                          refine vp_callSi (va_runS (As := [.int v42_2, .int v48_3]) (rest := []) ⟨hx, hb, hml, hown, hts⟩ (c_X12_has l D cI cB cL cZ cG v42_2 v48_3) (va_cwS 2 hts gX12_trades_X12_has rfl rfl rfl (by decide +kernel) ⟨Nat.le_of_ble_eq_true rfl, Nat.le_of_ble_eq_true rfl⟩) ⟨xr_blind, fun U hU hW => xr_mk hU hW hPc hK⟩ rfl rfl hl.1 rfl (lv_room (Nat.le_of_ble_eq_true rfl)) dX12_trades_58 ⟨Nat.le_of_ble_eq_true rfl, Nat.le_of_ble_eq_true rfl⟩).run (fun r58 hr58 => ?_)
                          obtain ⟨hr58, p58_t, p58_f⟩ := hr58
                          clear hPc
                          rcases hr58 with rfl | rfl
                          · have j89 : ∀ (H : Heap) (locs : List Loc) (ls : Array Slot) (u89_0 : Int32), zA MO_things 0 2 0 6 → zA MO_all 0 12 0 7 → va_P D classes [(MO, .inr (12, oX12 aMO MO_taped MO_size MO_faultKind MO_faultPlace MO_at MO_end MO_token MO_number MO_name MO_bank MO_rb MO_codes MO_within MO_piled MO_unitsInRule MO_askThing MO_acts MO_undone MO_laid MO_heards MO_time)), ((aMO 57), .inl (cI, 64, .inl g48_aMO57)), ((aMO 13), .inl (cI, 2, .inl MO_things)), ((aMO 42), .inl (cI, 32, .inl MO_all)), ((aMO 23), .inl (cI, 12, .inl MO_toThem)), ((aMO 22), .inl (cI, 12, .inl MO_toUs))] H → va_D A [(MO, .inr (12, oX12 aMO MO_taped MO_size MO_faultKind MO_faultPlace MO_at MO_end MO_token MO_number MO_name MO_bank MO_rb MO_codes MO_within MO_piled MO_unitsInRule MO_askThing MO_acts MO_undone MO_laid MO_heards MO_time)), ((aMO 57), .inl (cI, 64, .inl g48_aMO57)), ((aMO 13), .inl (cI, 2, .inl MO_things)), ((aMO 42), .inl (cI, 32, .inl MO_all)), ((aMO 23), .inl (cI, 12, .inl MO_toThem)), ((aMO 22), .inl (cI, 12, .inl MO_toUs))] → va_S A s.heap H locs → lv_has ls 5 [(3, .int v48_3), (2, .int v42_2), (1, .int v31_1), (0, .ref MO)] → W p l e ({ frames := 2, cells := 0, slots := 0, locals := 46 } : Room) s m ([.ref MO] : List Value).toArray below meth c H locs 0 0 Q (F0 m 89 ls [.int u89_0]) := by
                              intro H locs ls u89_0 sMO_things_0_k89 sMO_all_0_k89 hP hD hS hl
                              refine lv_istore (lv' := [(4, .int u89_0), (3, .int v48_3), (2, .int v42_2), (1, .int v31_1), (0, .ref MO)]) hx hb dX12_trades_89 hl (by decide) rfl (fun ls hl => ?_)
                              refine lv_iload hx hb dX12_trades_91 (lv_at hl 0 rfl) ?_
                              have j119 : ∀ (H : Heap) (locs : List Loc) (ls : Array Slot) (g119_aMO57 : Nat → Int32), zA MO_things 0 2 0 6 → zA MO_all 0 12 0 7 → va_P D classes [(MO, .inr (12, oX12 aMO MO_taped MO_size MO_faultKind MO_faultPlace MO_at MO_end MO_token MO_number MO_name MO_bank MO_rb MO_codes MO_within MO_piled MO_unitsInRule MO_askThing MO_acts MO_undone MO_laid MO_heards MO_time)), ((aMO 57), .inl (cI, 64, .inl g119_aMO57)), ((aMO 13), .inl (cI, 2, .inl MO_things)), ((aMO 42), .inl (cI, 32, .inl MO_all)), ((aMO 23), .inl (cI, 12, .inl MO_toThem)), ((aMO 22), .inl (cI, 12, .inl MO_toUs))] H → va_D A [(MO, .inr (12, oX12 aMO MO_taped MO_size MO_faultKind MO_faultPlace MO_at MO_end MO_token MO_number MO_name MO_bank MO_rb MO_codes MO_within MO_piled MO_unitsInRule MO_askThing MO_acts MO_undone MO_laid MO_heards MO_time)), ((aMO 57), .inl (cI, 64, .inl g119_aMO57)), ((aMO 13), .inl (cI, 2, .inl MO_things)), ((aMO 42), .inl (cI, 32, .inl MO_all)), ((aMO 23), .inl (cI, 12, .inl MO_toThem)), ((aMO 22), .inl (cI, 12, .inl MO_toUs))] → va_S A s.heap H locs → lv_has ls 5 [(4, .int u89_0), (3, .int v48_3), (2, .int v42_2), (1, .int v31_1), (0, .ref MO)] → W p l e ({ frames := 2, cells := 0, slots := 0, locals := 46 } : Room) s m ([.ref MO] : List Value).toArray below meth c H locs 0 0 Q (F0 m 119 ls []) := by
                                intro H locs ls g119_aMO57 sMO_things_0_k119 sMO_all_0_k119 hP hD hS hl
                                obtain ⟨y119, by119, ry119, ey119⟩ := zi_inc (x := v48_3) (k := 1) (a := 1) (b := 6) bx53f_v48_3 (by decide) (by decide) (by decide) (by decide) (by decide)
                                refine lv_iinc (v := y119) (lv' := [(3, .int y119), (4, .int u89_0), (2, .int v42_2), (1, .int v31_1), (0, .ref MO)]) hx hb dX12_trades_119 hl (k := 1) rfl ey119 (by decide) rfl (fun ls hl => ?_)
                                refine lv_goto (tgt := 48) hx hb dX12_trades_122 (by decide) ?_
                                exact ih48 H locs ls y119 g119_aMO57 (zB_w by119 (by decide) (by decide)) sMO_things_0_k119 sMO_all_0_k119 (zM_us (k := 1) hm48 ry119 (by decide)) hP hD hS (lv_sub hl [0, 2, 3, 4] rfl)
                              refine lv_if_lt (tgt := 119) hx hb dX12_trades_93 (by decide) (fun c93 => ?_) (fun c93 => ?_)
                              · have bx93t_u89_0 : zB u89_0 (-2147483648) (-1) := zB_ltu (zl c93) (zB_top u89_0) (show zB 0 0 0 from ⟨by decide, by decide⟩) (by decide)
                                exact j119 H locs ls g48_aMO57 sMO_things_0_k89 sMO_all_0_k89 hP hD hS (lv_sub hl [0, 1, 2, 3, 4] rfl)
                              · have by93f_u89_0 : zB u89_0 0 2147483647 := zB_lev (zg c93) (show zB 0 0 0 from ⟨by decide, by decide⟩) (zB_top u89_0) (by decide)
                                refine lv_iload hx hb dX12_trades_96 (lv_at hl 0 rfl) ?_
                                refine lv_iconst (v := 1) hx hb dX12_trades_98 (by decide) ?_
                                refine lv_iadd hx hb dX12_trades_99 ?_
                                refine lv_topi (fun y99 _ => ?_)
                                refine lv_aload_n hx hb dX12_trades_100 rfl (lv_at hl 4 rfl) ?_
                                refine va_get (D := D) (ci := 12) (v := .ref (aMO 57)) (C := RX12) (T := TX12) (N := 71) hx hb hts iw_X12_trades_X12 hown hK hP 0 rfl rfl 57 (by decide) (hts (.fieldLink RX12 131 "SoldHouseModel" "taken" "[I") (List.mem_of_getElem? (i := 1) rfl)) (fun _ h9 => h9) rfl dX12_trades_101 ?_
                                refine lv_iload_n hx hb dX12_trades_104 rfl (lv_at hl 2 rfl) ?_
                                refine va_iald hx hb hK hP 1 0 rfl rfl (zB_in by43f_v42_2 (by decide) (by decide)) dX12_trades_105 ?_
                                refine lv_topi (fun y105 _ => ?_)
                                refine lv_icmp_le (tgt := 119) hx hb dX12_trades_106 (by decide) (fun c106 => ?_) (fun c106 => ?_)
                                · exact j119 H locs ls g48_aMO57 sMO_things_0_k89 sMO_all_0_k89 hP hD hS (lv_sub hl [0, 1, 2, 3, 4] rfl)
                                · have bx106f_y105 : zB y105 (-2147483648) 2147483646 := zB_ltu (zf c106) (zB_top y105) (zB_top y99) (by decide)
                                  have by106f_y99 : zB y99 (-2147483647) 2147483647 := zB_ltv (zf c106) bx106f_y105 (zB_top y99) (by decide)
                                  refine lv_aload_n hx hb dX12_trades_109 rfl (lv_at hl 4 rfl) ?_
                                  refine va_get (D := D) (ci := 12) (v := .ref (aMO 57)) (C := RX12) (T := TX12) (N := 71) hx hb hts iw_X12_trades_X12 hown hK hP 0 rfl rfl 57 (by decide) (hts (.fieldLink RX12 131 "SoldHouseModel" "taken" "[I") (List.mem_of_getElem? (i := 1) rfl)) (fun _ h9 => h9) rfl dX12_trades_110 ?_
                                  refine lv_iload_n hx hb dX12_trades_113 rfl (lv_at hl 2 rfl) ?_
                                  refine lv_iload hx hb dX12_trades_114 (lv_at hl 0 rfl) ?_
                                  refine lv_iconst (v := 1) hx hb dX12_trades_116 (by decide) ?_
                                  refine lv_iadd hx hb dX12_trades_117 ?_
                                  refine lv_topi (fun y117 _ => ?_)
                                  refine zi_iast hx hb hK hP hD hS 1 0 rfl rfl (zB_in by43f_v42_2 (by decide) (by decide)) dX12_trades_118 (fun H locs g118 eg118 hP hD hS => ?_)
                                  replace hP : va_P D classes [(MO, .inr (12, oX12 aMO MO_taped MO_size MO_faultKind MO_faultPlace MO_at MO_end MO_token MO_number MO_name MO_bank MO_rb MO_codes MO_within MO_piled MO_unitsInRule MO_askThing MO_acts MO_undone MO_laid MO_heards MO_time)), ((aMO 57), .inl (cI, 64, .inl g118)), ((aMO 13), .inl (cI, 2, .inl MO_things)), ((aMO 42), .inl (cI, 32, .inl MO_all)), ((aMO 23), .inl (cI, 12, .inl MO_toThem)), ((aMO 22), .inl (cI, 12, .inl MO_toUs))] H := hP
                                  replace hD : va_D A [(MO, .inr (12, oX12 aMO MO_taped MO_size MO_faultKind MO_faultPlace MO_at MO_end MO_token MO_number MO_name MO_bank MO_rb MO_codes MO_within MO_piled MO_unitsInRule MO_askThing MO_acts MO_undone MO_laid MO_heards MO_time)), ((aMO 57), .inl (cI, 64, .inl g118)), ((aMO 13), .inl (cI, 2, .inl MO_things)), ((aMO 42), .inl (cI, 32, .inl MO_all)), ((aMO 23), .inl (cI, 12, .inl MO_toThem)), ((aMO 22), .inl (cI, 12, .inl MO_toUs))] := hD
                                  clear eg118
                                  exact j119 H locs ls g118 sMO_things_0_k89 sMO_all_0_k89 hP hD hS (lv_sub hl [0, 1, 2, 3, 4] rfl)
                            have j88 : ∀ (H : Heap) (locs : List Loc) (ls : Array Slot), zA MO_things 0 2 0 6 → zA MO_all 0 12 0 7 → va_P D classes [(MO, .inr (12, oX12 aMO MO_taped MO_size MO_faultKind MO_faultPlace MO_at MO_end MO_token MO_number MO_name MO_bank MO_rb MO_codes MO_within MO_piled MO_unitsInRule MO_askThing MO_acts MO_undone MO_laid MO_heards MO_time)), ((aMO 57), .inl (cI, 64, .inl g48_aMO57)), ((aMO 13), .inl (cI, 2, .inl MO_things)), ((aMO 42), .inl (cI, 32, .inl MO_all)), ((aMO 23), .inl (cI, 12, .inl MO_toThem)), ((aMO 22), .inl (cI, 12, .inl MO_toUs))] H → va_D A [(MO, .inr (12, oX12 aMO MO_taped MO_size MO_faultKind MO_faultPlace MO_at MO_end MO_token MO_number MO_name MO_bank MO_rb MO_codes MO_within MO_piled MO_unitsInRule MO_askThing MO_acts MO_undone MO_laid MO_heards MO_time)), ((aMO 57), .inl (cI, 64, .inl g48_aMO57)), ((aMO 13), .inl (cI, 2, .inl MO_things)), ((aMO 42), .inl (cI, 32, .inl MO_all)), ((aMO 23), .inl (cI, 12, .inl MO_toThem)), ((aMO 22), .inl (cI, 12, .inl MO_toUs))] → va_S A s.heap H locs → lv_has ls 5 [(3, .int v48_3), (2, .int v42_2), (1, .int v31_1), (0, .ref MO)] → W p l e ({ frames := 2, cells := 0, slots := 0, locals := 46 } : Room) s m ([.ref MO] : List Value).toArray below meth c H locs 0 0 Q (F0 m 88 ls []) := by
                              intro H locs ls sMO_things_0_k88 sMO_all_0_k88 hP hD hS hl
                              refine lv_iconst (v := (-1)) hx hb dX12_trades_88 (by decide) ?_
                              exact j89 H locs ls (-1) sMO_things_0_k88 sMO_all_0_k88 hP hD hS (lv_sub hl [0, 1, 2, 3] rfl)
                            refine lv_if_eq (tgt := 88) hx hb dX12_trades_61 (by decide) (fun _ => ?_) (fun c61 => absurd (by decide) c61)
                            exact j88 H locs ls sMO_things_0_k48 sMO_all_0_k48 hP hD hS (lv_sub hl [0, 1, 2, 3] rfl)
                          · have j89 : ∀ (H : Heap) (locs : List Loc) (ls : Array Slot) (u89_0 : Int32), zA MO_things 0 2 0 6 → zA MO_all 0 12 0 7 → va_P D classes [(MO, .inr (12, oX12 aMO MO_taped MO_size MO_faultKind MO_faultPlace MO_at MO_end MO_token MO_number MO_name MO_bank MO_rb MO_codes MO_within MO_piled MO_unitsInRule MO_askThing MO_acts MO_undone MO_laid MO_heards MO_time)), ((aMO 57), .inl (cI, 64, .inl g48_aMO57)), ((aMO 13), .inl (cI, 2, .inl MO_things)), ((aMO 42), .inl (cI, 32, .inl MO_all)), ((aMO 23), .inl (cI, 12, .inl MO_toThem)), ((aMO 22), .inl (cI, 12, .inl MO_toUs))] H → va_D A [(MO, .inr (12, oX12 aMO MO_taped MO_size MO_faultKind MO_faultPlace MO_at MO_end MO_token MO_number MO_name MO_bank MO_rb MO_codes MO_within MO_piled MO_unitsInRule MO_askThing MO_acts MO_undone MO_laid MO_heards MO_time)), ((aMO 57), .inl (cI, 64, .inl g48_aMO57)), ((aMO 13), .inl (cI, 2, .inl MO_things)), ((aMO 42), .inl (cI, 32, .inl MO_all)), ((aMO 23), .inl (cI, 12, .inl MO_toThem)), ((aMO 22), .inl (cI, 12, .inl MO_toUs))] → va_S A s.heap H locs → lv_has ls 5 [(3, .int v48_3), (2, .int v42_2), (1, .int v31_1), (0, .ref MO)] → W p l e ({ frames := 2, cells := 0, slots := 0, locals := 46 } : Room) s m ([.ref MO] : List Value).toArray below meth c H locs 0 0 Q (F0 m 89 ls [.int u89_0]) := by
                              intro H locs ls u89_0 sMO_things_0_k89 sMO_all_0_k89 hP hD hS hl
                              refine lv_istore (lv' := [(4, .int u89_0), (3, .int v48_3), (2, .int v42_2), (1, .int v31_1), (0, .ref MO)]) hx hb dX12_trades_89 hl (by decide) rfl (fun ls hl => ?_)
                              refine lv_iload hx hb dX12_trades_91 (lv_at hl 0 rfl) ?_
                              have j119 : ∀ (H : Heap) (locs : List Loc) (ls : Array Slot) (g119_aMO57 : Nat → Int32), zA MO_things 0 2 0 6 → zA MO_all 0 12 0 7 → va_P D classes [(MO, .inr (12, oX12 aMO MO_taped MO_size MO_faultKind MO_faultPlace MO_at MO_end MO_token MO_number MO_name MO_bank MO_rb MO_codes MO_within MO_piled MO_unitsInRule MO_askThing MO_acts MO_undone MO_laid MO_heards MO_time)), ((aMO 57), .inl (cI, 64, .inl g119_aMO57)), ((aMO 13), .inl (cI, 2, .inl MO_things)), ((aMO 42), .inl (cI, 32, .inl MO_all)), ((aMO 23), .inl (cI, 12, .inl MO_toThem)), ((aMO 22), .inl (cI, 12, .inl MO_toUs))] H → va_D A [(MO, .inr (12, oX12 aMO MO_taped MO_size MO_faultKind MO_faultPlace MO_at MO_end MO_token MO_number MO_name MO_bank MO_rb MO_codes MO_within MO_piled MO_unitsInRule MO_askThing MO_acts MO_undone MO_laid MO_heards MO_time)), ((aMO 57), .inl (cI, 64, .inl g119_aMO57)), ((aMO 13), .inl (cI, 2, .inl MO_things)), ((aMO 42), .inl (cI, 32, .inl MO_all)), ((aMO 23), .inl (cI, 12, .inl MO_toThem)), ((aMO 22), .inl (cI, 12, .inl MO_toUs))] → va_S A s.heap H locs → lv_has ls 5 [(4, .int u89_0), (3, .int v48_3), (2, .int v42_2), (1, .int v31_1), (0, .ref MO)] → W p l e ({ frames := 2, cells := 0, slots := 0, locals := 46 } : Room) s m ([.ref MO] : List Value).toArray below meth c H locs 0 0 Q (F0 m 119 ls []) := by
                                intro H locs ls g119_aMO57 sMO_things_0_k119 sMO_all_0_k119 hP hD hS hl
                                obtain ⟨y119, by119, ry119, ey119⟩ := zi_inc (x := v48_3) (k := 1) (a := 1) (b := 6) bx53f_v48_3 (by decide) (by decide) (by decide) (by decide) (by decide)
                                refine lv_iinc (v := y119) (lv' := [(3, .int y119), (4, .int u89_0), (2, .int v42_2), (1, .int v31_1), (0, .ref MO)]) hx hb dX12_trades_119 hl (k := 1) rfl ey119 (by decide) rfl (fun ls hl => ?_)
                                refine lv_goto (tgt := 48) hx hb dX12_trades_122 (by decide) ?_
                                exact ih48 H locs ls y119 g119_aMO57 (zB_w by119 (by decide) (by decide)) sMO_things_0_k119 sMO_all_0_k119 (zM_us (k := 1) hm48 ry119 (by decide)) hP hD hS (lv_sub hl [0, 2, 3, 4] rfl)
                              refine lv_if_lt (tgt := 119) hx hb dX12_trades_93 (by decide) (fun c93 => ?_) (fun c93 => ?_)
                              · have bx93t_u89_0 : zB u89_0 (-2147483648) (-1) := zB_ltu (zl c93) (zB_top u89_0) (show zB 0 0 0 from ⟨by decide, by decide⟩) (by decide)
                                exact j119 H locs ls g48_aMO57 sMO_things_0_k89 sMO_all_0_k89 hP hD hS (lv_sub hl [0, 1, 2, 3, 4] rfl)
                              · have by93f_u89_0 : zB u89_0 0 2147483647 := zB_lev (zg c93) (show zB 0 0 0 from ⟨by decide, by decide⟩) (zB_top u89_0) (by decide)
                                refine lv_iload hx hb dX12_trades_96 (lv_at hl 0 rfl) ?_
                                refine lv_iconst (v := 1) hx hb dX12_trades_98 (by decide) ?_
                                refine lv_iadd hx hb dX12_trades_99 ?_
                                refine lv_topi (fun y99 _ => ?_)
                                refine lv_aload_n hx hb dX12_trades_100 rfl (lv_at hl 4 rfl) ?_
                                refine va_get (D := D) (ci := 12) (v := .ref (aMO 57)) (C := RX12) (T := TX12) (N := 71) hx hb hts iw_X12_trades_X12 hown hK hP 0 rfl rfl 57 (by decide) (hts (.fieldLink RX12 131 "SoldHouseModel" "taken" "[I") (List.mem_of_getElem? (i := 1) rfl)) (fun _ h9 => h9) rfl dX12_trades_101 ?_
                                refine lv_iload_n hx hb dX12_trades_104 rfl (lv_at hl 2 rfl) ?_
                                refine va_iald hx hb hK hP 1 0 rfl rfl (zB_in by43f_v42_2 (by decide) (by decide)) dX12_trades_105 ?_
                                refine lv_topi (fun y105 _ => ?_)
                                refine lv_icmp_le (tgt := 119) hx hb dX12_trades_106 (by decide) (fun c106 => ?_) (fun c106 => ?_)
                                · exact j119 H locs ls g48_aMO57 sMO_things_0_k89 sMO_all_0_k89 hP hD hS (lv_sub hl [0, 1, 2, 3, 4] rfl)
                                · have bx106f_y105 : zB y105 (-2147483648) 2147483646 := zB_ltu (zf c106) (zB_top y105) (zB_top y99) (by decide)
                                  have by106f_y99 : zB y99 (-2147483647) 2147483647 := zB_ltv (zf c106) bx106f_y105 (zB_top y99) (by decide)
                                  refine lv_aload_n hx hb dX12_trades_109 rfl (lv_at hl 4 rfl) ?_
                                  refine va_get (D := D) (ci := 12) (v := .ref (aMO 57)) (C := RX12) (T := TX12) (N := 71) hx hb hts iw_X12_trades_X12 hown hK hP 0 rfl rfl 57 (by decide) (hts (.fieldLink RX12 131 "SoldHouseModel" "taken" "[I") (List.mem_of_getElem? (i := 1) rfl)) (fun _ h9 => h9) rfl dX12_trades_110 ?_
                                  refine lv_iload_n hx hb dX12_trades_113 rfl (lv_at hl 2 rfl) ?_
                                  refine lv_iload hx hb dX12_trades_114 (lv_at hl 0 rfl) ?_
                                  refine lv_iconst (v := 1) hx hb dX12_trades_116 (by decide) ?_
                                  refine lv_iadd hx hb dX12_trades_117 ?_
                                  refine lv_topi (fun y117 _ => ?_)
                                  refine zi_iast hx hb hK hP hD hS 1 0 rfl rfl (zB_in by43f_v42_2 (by decide) (by decide)) dX12_trades_118 (fun H locs g118 eg118 hP hD hS => ?_)
                                  replace hP : va_P D classes [(MO, .inr (12, oX12 aMO MO_taped MO_size MO_faultKind MO_faultPlace MO_at MO_end MO_token MO_number MO_name MO_bank MO_rb MO_codes MO_within MO_piled MO_unitsInRule MO_askThing MO_acts MO_undone MO_laid MO_heards MO_time)), ((aMO 57), .inl (cI, 64, .inl g118)), ((aMO 13), .inl (cI, 2, .inl MO_things)), ((aMO 42), .inl (cI, 32, .inl MO_all)), ((aMO 23), .inl (cI, 12, .inl MO_toThem)), ((aMO 22), .inl (cI, 12, .inl MO_toUs))] H := hP
                                  replace hD : va_D A [(MO, .inr (12, oX12 aMO MO_taped MO_size MO_faultKind MO_faultPlace MO_at MO_end MO_token MO_number MO_name MO_bank MO_rb MO_codes MO_within MO_piled MO_unitsInRule MO_askThing MO_acts MO_undone MO_laid MO_heards MO_time)), ((aMO 57), .inl (cI, 64, .inl g118)), ((aMO 13), .inl (cI, 2, .inl MO_things)), ((aMO 42), .inl (cI, 32, .inl MO_all)), ((aMO 23), .inl (cI, 12, .inl MO_toThem)), ((aMO 22), .inl (cI, 12, .inl MO_toUs))] := hD
                                  clear eg118
                                  exact j119 H locs ls g118 sMO_things_0_k89 sMO_all_0_k89 hP hD hS (lv_sub hl [0, 1, 2, 3, 4] rfl)
                            have j88 : ∀ (H : Heap) (locs : List Loc) (ls : Array Slot), zA MO_things 0 2 0 6 → zA MO_all 0 12 0 7 → va_P D classes [(MO, .inr (12, oX12 aMO MO_taped MO_size MO_faultKind MO_faultPlace MO_at MO_end MO_token MO_number MO_name MO_bank MO_rb MO_codes MO_within MO_piled MO_unitsInRule MO_askThing MO_acts MO_undone MO_laid MO_heards MO_time)), ((aMO 57), .inl (cI, 64, .inl g48_aMO57)), ((aMO 13), .inl (cI, 2, .inl MO_things)), ((aMO 42), .inl (cI, 32, .inl MO_all)), ((aMO 23), .inl (cI, 12, .inl MO_toThem)), ((aMO 22), .inl (cI, 12, .inl MO_toUs))] H → va_D A [(MO, .inr (12, oX12 aMO MO_taped MO_size MO_faultKind MO_faultPlace MO_at MO_end MO_token MO_number MO_name MO_bank MO_rb MO_codes MO_within MO_piled MO_unitsInRule MO_askThing MO_acts MO_undone MO_laid MO_heards MO_time)), ((aMO 57), .inl (cI, 64, .inl g48_aMO57)), ((aMO 13), .inl (cI, 2, .inl MO_things)), ((aMO 42), .inl (cI, 32, .inl MO_all)), ((aMO 23), .inl (cI, 12, .inl MO_toThem)), ((aMO 22), .inl (cI, 12, .inl MO_toUs))] → va_S A s.heap H locs → lv_has ls 5 [(3, .int v48_3), (2, .int v42_2), (1, .int v31_1), (0, .ref MO)] → W p l e ({ frames := 2, cells := 0, slots := 0, locals := 46 } : Room) s m ([.ref MO] : List Value).toArray below meth c H locs 0 0 Q (F0 m 88 ls []) := by
                              intro H locs ls sMO_things_0_k88 sMO_all_0_k88 hP hD hS hl
                              refine lv_iconst (v := (-1)) hx hb dX12_trades_88 (by decide) ?_
                              exact j89 H locs ls (-1) sMO_things_0_k88 sMO_all_0_k88 hP hD hS (lv_sub hl [0, 1, 2, 3] rfl)
                            refine lv_if_eq (tgt := 88) hx hb dX12_trades_61 (by decide) (fun c61 => absurd c61 (by decide)) (fun _ => ?_)
                            refine lv_aload_n hx hb dX12_trades_64 rfl (lv_at hl 3 rfl) ?_
                            refine lv_iload_n hx hb dX12_trades_65 rfl (lv_at hl 2 rfl) ?_
                            refine lv_iload_n hx hb dX12_trades_66 rfl (lv_at hl 0 rfl) ?_
                            have hPc := hP.sub (ws' := [(MO, .inr (12, oX12 aMO MO_taped MO_size MO_faultKind MO_faultPlace MO_at MO_end MO_token MO_number MO_name MO_bank MO_rb MO_codes MO_within MO_piled MO_unitsInRule MO_askThing MO_acts MO_undone MO_laid MO_heards MO_time)), ((aMO 42), .inl (cI, 32, .inl MO_all)), ((aMO 23), .inl (cI, 12, .inl MO_toThem)), ((aMO 22), .inl (cI, 12, .inl MO_toUs))]) [0, 3, 4, 5] rfl
                            refine vp_callSi (va_runV (As := [.int v31_1, .int v48_3]) (rest := []) ⟨hx, hb, hml, hown, hts⟩ (c_X12_gainOf l D cI cB cL cZ cG MO v31_1 v48_3 aMO MO_taped MO_size MO_faultKind MO_faultPlace MO_at MO_end MO_token MO_number MO_name MO_bank MO_rb MO_codes MO_within MO_piled MO_unitsInRule MO_askThing MO_acts MO_undone MO_laid MO_heards MO_time MO_all MO_toThem MO_toUs bx36f_v31_1 bx53f_v48_3 b_MO_taped b_MO_size b_MO_faultKind b_MO_at b_MO_end b_MO_token b_MO_bank b_MO_rb b_MO_codes b_MO_within b_MO_piled b_MO_unitsInRule b_MO_askThing b_MO_acts b_MO_undone b_MO_laid b_MO_heards b_MO_time sMO_all_0_k48) (cwV 2 hts gX12_trades_X12_gainOf rfl rfl rfl (by decide +kernel) ⟨Nat.le_of_ble_eq_true rfl, Nat.le_of_ble_eq_true rfl⟩) ⟨xr_blind, va_recv hK hP (ci := 12) (q0 := 0) rfl rfl, fun U hU hW => xr_mk hU hW hPc hK⟩ rfl rfl hl.1 rfl (lv_room (Nat.le_of_ble_eq_true rfl)) dX12_trades_67 ⟨Nat.le_of_ble_eq_true rfl, Nat.le_of_ble_eq_true rfl⟩).run (fun r67 hr67 => ?_)
                            clear hPc
                            clear hr67
                            refine lv_if_lt (tgt := 88) hx hb dX12_trades_70 (by decide) (fun c70 => ?_) (fun c70 => ?_)
                            · have bx70t_r67 : zB r67 (-2147483648) (-1) := zB_ltu (zl c70) (zB_top r67) (show zB 0 0 0 from ⟨by decide, by decide⟩) (by decide)
                              exact j88 H locs ls sMO_things_0_k48 sMO_all_0_k48 hP hD hS (lv_sub hl [0, 1, 2, 3] rfl)
                            · have by70f_r67 : zB r67 0 2147483647 := zB_lev (zg c70) (show zB 0 0 0 from ⟨by decide, by decide⟩) (zB_top r67) (by decide)
                              refine lv_aload_n hx hb dX12_trades_73 rfl (lv_at hl 3 rfl) ?_
                              refine va_get (D := D) (ci := 12) (v := .ref (aMO 57)) (C := RX12) (T := TX12) (N := 71) hx hb hts iw_X12_trades_X12 hown hK hP 0 rfl rfl 57 (by decide) (hts (.fieldLink RX12 131 "SoldHouseModel" "taken" "[I") (List.mem_of_getElem? (i := 1) rfl)) (fun _ h9 => h9) rfl dX12_trades_74 ?_
                              refine lv_iload_n hx hb dX12_trades_77 rfl (lv_at hl 1 rfl) ?_
                              refine lv_iconst (v := 1) hx hb dX12_trades_78 (by decide) ?_
                              refine lv_iload_n hx hb dX12_trades_79 rfl (lv_at hl 0 rfl) ?_
                              refine lv_ishl hx hb dX12_trades_80 ?_
                              refine zi_top (a := 1) (b := 32) (zB_shl1 bx53f_v48_3 (by decide) (by decide) (by decide) (by decide)) (fun y80 by80 => ?_)
                              refine lv_iconst (v := (-1)) hx hb dX12_trades_81 (by decide) ?_
                              refine lv_ixor hx hb dX12_trades_82 ?_
                              refine zi_top (a := (-33)) (b := (-2)) (zB_not by80 (by decide) (by decide)) (fun y82 by82 => ?_)
                              refine lv_iand hx hb dX12_trades_83 ?_
                              refine zi_top (a := 0) (b := 63) (zB_andl by43f_v42_2 (by decide)) (fun y83 by83 => ?_)
                              refine va_iald hx hb hK hP 1 0 rfl rfl (zB_in by83 (by decide) (by decide)) dX12_trades_84 ?_
                              refine lv_topi (fun y84 _ => ?_)
                              refine lv_goto (tgt := 89) hx hb dX12_trades_85 (by decide) ?_
                              exact j89 H locs ls y84 sMO_things_0_k48 sMO_all_0_k48 hP hD hS (lv_sub hl [0, 1, 2, 3] rfl)
                    refine lv_istore_n (lv' := [(3, .int 0), (2, .int v42_2), (1, .int v31_1), (0, .ref MO)]) hx hb dX12_trades_47 rfl hl (by decide) rfl (fun ls hl => ?_)
                    exact j48 7 H locs ls 0 g42_aMO57 (zB_w (show zB 0 0 0 from ⟨by decide, by decide⟩) (by decide) (by decide)) sMO_things_0_k42 sMO_all_0_k42 (zM_ui (show zB 0 0 0 from ⟨by decide, by decide⟩) (by decide)) hP hD hS (lv_sub hl [0, 1, 2, 3] rfl)
              refine lv_istore_n (lv' := [(2, .int 63), (1, .int v31_1), (0, .ref MO)]) hx hb dX12_trades_41 rfl hl (by decide) rfl (fun ls hl => ?_)
              exact j42 65 H locs ls 63 g31_aMO57 (zB_w (show zB 63 63 63 from ⟨by decide, by decide⟩) (by decide) (by decide)) sMO_things_0_k31 sMO_all_0_k31 (zM_di (show zB 63 63 63 from ⟨by decide, by decide⟩) (by decide)) hP hD hS (lv_sub hl [0, 1, 2] rfl)
        refine lv_istore_n (lv' := [(1, .int 0), (0, .ref MO)]) hx hb dX12_trades_30 rfl hl (by decide) rfl (fun ls hl => ?_)
        exact j31 7 H locs ls 0 g2_aMO57 (zB_w (show zB 0 0 0 from ⟨by decide, by decide⟩) (by decide) (by decide)) sMO_things_0_k2 sMO_all_0_k2 (zM_ui (show zB 0 0 0 from ⟨by decide, by decide⟩) (by decide)) hP hD hS (lv_sub hl [0, 1] rfl)
      · have bx5f_v2_1 : zB v2_1 0 63 := zB_ltu (zf c5) bv2_1_k2 (show zB 64 64 64 from ⟨by decide, by decide⟩) (by decide)
        refine lv_aload_n hx hb dX12_trades_8 rfl (lv_at hl 1 rfl) ?_
        refine va_get (D := D) (ci := 12) (v := .ref (aMO 57)) (C := RX12) (T := TX12) (N := 71) hx hb hts iw_X12_trades_X12 hown hK hP 0 rfl rfl 57 (by decide) (hts (.fieldLink RX12 131 "SoldHouseModel" "taken" "[I") (List.mem_of_getElem? (i := 1) rfl)) (fun _ h9 => h9) rfl dX12_trades_9 ?_
        refine lv_iload_n hx hb dX12_trades_12 rfl (lv_at hl 0 rfl) ?_
        refine lv_iload_n hx hb dX12_trades_13 rfl (lv_at hl 0 rfl) ?_
        have j22 : ∀ (H : Heap) (locs : List Loc) (ls : Array Slot) (u22_0 : Int32), zB u22_0 (-1) 0 → zA MO_things 0 2 0 6 → zA MO_all 0 12 0 7 → va_P D classes [(MO, .inr (12, oX12 aMO MO_taped MO_size MO_faultKind MO_faultPlace MO_at MO_end MO_token MO_number MO_name MO_bank MO_rb MO_codes MO_within MO_piled MO_unitsInRule MO_askThing MO_acts MO_undone MO_laid MO_heards MO_time)), ((aMO 57), .inl (cI, 64, .inl g2_aMO57)), ((aMO 13), .inl (cI, 2, .inl MO_things)), ((aMO 42), .inl (cI, 32, .inl MO_all)), ((aMO 23), .inl (cI, 12, .inl MO_toThem)), ((aMO 22), .inl (cI, 12, .inl MO_toUs))] H → va_D A [(MO, .inr (12, oX12 aMO MO_taped MO_size MO_faultKind MO_faultPlace MO_at MO_end MO_token MO_number MO_name MO_bank MO_rb MO_codes MO_within MO_piled MO_unitsInRule MO_askThing MO_acts MO_undone MO_laid MO_heards MO_time)), ((aMO 57), .inl (cI, 64, .inl g2_aMO57)), ((aMO 13), .inl (cI, 2, .inl MO_things)), ((aMO 42), .inl (cI, 32, .inl MO_all)), ((aMO 23), .inl (cI, 12, .inl MO_toThem)), ((aMO 22), .inl (cI, 12, .inl MO_toUs))] → va_S A s.heap H locs → lv_has ls 5 [(1, .int v2_1), (0, .ref MO)] → W p l e ({ frames := 2, cells := 0, slots := 0, locals := 46 } : Room) s m ([.ref MO] : List Value).toArray below meth c H locs 0 0 Q (F0 m 22 ls [.int u22_0, .int v2_1, .ref (aMO 57)]) := by
          intro H locs ls u22_0 bu22_0_k22 sMO_things_0_k22 sMO_all_0_k22 hP hD hS hl
          refine zi_iast hx hb hK hP hD hS 1 0 rfl rfl (zB_in bx5f_v2_1 (by decide) (by decide)) dX12_trades_22 (fun H locs g22 eg22 hP hD hS => ?_)
          replace hP : va_P D classes [(MO, .inr (12, oX12 aMO MO_taped MO_size MO_faultKind MO_faultPlace MO_at MO_end MO_token MO_number MO_name MO_bank MO_rb MO_codes MO_within MO_piled MO_unitsInRule MO_askThing MO_acts MO_undone MO_laid MO_heards MO_time)), ((aMO 57), .inl (cI, 64, .inl g22)), ((aMO 13), .inl (cI, 2, .inl MO_things)), ((aMO 42), .inl (cI, 32, .inl MO_all)), ((aMO 23), .inl (cI, 12, .inl MO_toThem)), ((aMO 22), .inl (cI, 12, .inl MO_toUs))] H := hP
          replace hD : va_D A [(MO, .inr (12, oX12 aMO MO_taped MO_size MO_faultKind MO_faultPlace MO_at MO_end MO_token MO_number MO_name MO_bank MO_rb MO_codes MO_within MO_piled MO_unitsInRule MO_askThing MO_acts MO_undone MO_laid MO_heards MO_time)), ((aMO 57), .inl (cI, 64, .inl g22)), ((aMO 13), .inl (cI, 2, .inl MO_things)), ((aMO 42), .inl (cI, 32, .inl MO_all)), ((aMO 23), .inl (cI, 12, .inl MO_toThem)), ((aMO 22), .inl (cI, 12, .inl MO_toUs))] := hD
          clear eg22
          obtain ⟨y23, by23, ry23, ey23⟩ := zi_inc (x := v2_1) (k := 1) (a := 1) (b := 64) bx5f_v2_1 (by decide) (by decide) (by decide) (by decide) (by decide)
          refine lv_iinc (v := y23) (lv' := [(1, .int y23), (0, .ref MO)]) hx hb dX12_trades_23 hl (k := 0) rfl ey23 (by decide) rfl (fun ls hl => ?_)
          refine lv_goto (tgt := 2) hx hb dX12_trades_26 (by decide) ?_
          exact ih2 H locs ls y23 g22 (zB_w by23 (by decide) (by decide)) sMO_things_0_k22 sMO_all_0_k22 (zM_us (k := 1) hm2 ry23 (by decide)) hP hD hS (lv_sub hl [0, 1] rfl)
        refine lv_if_ne (tgt := 21) hx hb dX12_trades_14 (by decide) (fun c14 => ?_) (fun c14 => ?_)
        · have bn14t_v2_1 : zB v2_1 1 63 := zB_neL c14 bx5f_v2_1 (show zB 0 0 0 from ⟨by decide, by decide⟩) (by decide)
          refine lv_iconst (v := (-1)) hx hb dX12_trades_21 (by decide) ?_
          exact j22 H locs ls (-1) (zB_w (show zB (-1) (-1) (-1) from ⟨by decide, by decide⟩) (by decide) (by decide)) sMO_things_0_k2 sMO_all_0_k2 hP hD hS (lv_sub hl [0, 1] rfl)
        · have be14f_v2_1 : zB v2_1 0 0 := zB_eq c14 bx5f_v2_1 (show zB 0 0 0 from ⟨by decide, by decide⟩) (by decide) (by decide)
          refine lv_iconst (v := 0) hx hb dX12_trades_17 (by decide) ?_
          refine lv_goto (tgt := 22) hx hb dX12_trades_18 (by decide) ?_
          exact j22 H locs ls 0 (zB_w (show zB 0 0 0 from ⟨by decide, by decide⟩) (by decide) (by decide)) sMO_things_0_k2 sMO_all_0_k2 hP hD hS (lv_sub hl [0, 1] rfl)
  refine lv_istore_n (lv' := [(1, .int 0), (0, .ref MO)]) hx hb dX12_trades_1 rfl hl (by decide) rfl (fun ls hl => ?_)
  exact j2 65 H locs ls 0 MO_taken (zB_w (show zB 0 0 0 from ⟨by decide, by decide⟩) (by decide) (by decide)) s_MO_things_0 s_MO_all_0 (zM_ui (show zB 0 0 0 from ⟨by decide, by decide⟩) (by decide)) hP hD hS (lv_sub hl [0, 1] rfl)
set_option maxHeartbeats 4000000 in
set_option maxRecDepth 100000 in
theorem c_X12_wealth (l : Launch) (D : va_G) (cI : ClassId) (cB : ClassId) (cL : ClassId) (cZ : ClassId) (cG : ClassId) (MO : Nat) (x0 : Int32) (aMO : Nat → Nat) (MO_taped : Int32) (MO_size : Int32) (MO_faultKind : Int32) (MO_faultPlace : Int32) (MO_at : Int32) (MO_end : Int32) (MO_token : Int32) (MO_number : Int32) (MO_name : Int64) (MO_bank : Int32) (MO_rb : Int32) (MO_codes : Int32) (MO_within : Int32) (MO_piled : Int32) (MO_unitsInRule : Int32) (MO_askThing : Int32) (MO_acts : Int32) (MO_undone : Int32) (MO_laid : Int32) (MO_heards : Int32) (MO_time : Int32) (MO_things : Nat → Int32) (MO_all : Nat → Int32) (MO_toThem : Nat → Int32) (MO_toUs : Nat → Int32) (b_MO_taped : zB MO_taped 0 1600) (b_MO_size : zB MO_size 0 1600) (b_MO_faultKind : zB MO_faultKind 0 5) (b_MO_at : zB MO_at 0 1600) (b_MO_end : zB MO_end 0 1600) (b_MO_token : zB MO_token 0 5) (b_MO_bank : zB MO_bank 0 1) (b_MO_rb : zB MO_rb 0 1) (b_MO_codes : zB MO_codes 0 1120) (b_MO_within : zB MO_within 0 7) (b_MO_piled : zB MO_piled 0 89) (b_MO_unitsInRule : zB MO_unitsInRule 0 30) (b_MO_askThing : zB MO_askThing 0 5) (b_MO_acts : zB MO_acts 0 40) (b_MO_undone : zB MO_undone 0 40) (b_MO_laid : zB MO_laid 0 8) (b_MO_heards : zB MO_heards 0 30) (b_MO_time : zB MO_time 0 100000) (s_MO_things_0 : zA MO_things 0 2 0 6) (s_MO_all_0 : zA MO_all 0 12 0 7) : Met l yX12_wealth wsX12_wealth ({ frames := 1, cells := 0, slots := 0, locals := 22 }) (xr D [(cI, .int), (cB, .byte), (cL, .long), (cZ, .boolean), (cG, .array .int)] [(MO, .inr (12, oX12 aMO MO_taped MO_size MO_faultKind MO_faultPlace MO_at MO_end MO_token MO_number MO_name MO_bank MO_rb MO_codes MO_within MO_piled MO_unitsInRule MO_askThing MO_acts MO_undone MO_laid MO_heards MO_time)), ((aMO 13), .inl (cI, 2, .inl MO_things)), ((aMO 42), .inl (cI, 32, .inl MO_all)), ((aMO 23), .inl (cI, 12, .inl MO_toThem)), ((aMO 22), .inl (cI, 12, .inl MO_toUs))] [.ref MO, .int x0]) (vp_Si (fun r => True)) 0 0 (fun _ => False) := by
  refine Met.ofW (cc := cX12_wealth) (maxL := 4) (ret := (some .int)) (by decide) rfl ?_
  intro p e s m args below meth c s₁ B hml hv
  obtain ⟨rfl, hP, hK⟩ := hv
  have hx := B.exec
  have hb := B.bytes
  have hr := B.returns
  have hts := atoms_spec (ws := wsX12_wealth) B.pre
  have hown : s.vm.findClass RX12 = some m.cls := findClass_of_methodNamed B.named
  have hlocks := B.notSynchronized
  clear B
  have hl := lv_entry ([.ref MO, .int x0]) (n := 4) (Nat.le_of_ble_eq_true rfl)
  rw [lg_entry_eq]
  generalize (lg_sl ([.ref MO, .int x0]) ++ List.replicate (4 - (lg_sl ([.ref MO, .int x0])).length) Slot.unset).toArray = ls at hl ⊢
  replace hl : lv_has ls 4 [(0, .ref MO), (1, .int x0)] := hl
  refine zz_abs (R := ({ frames := 1, cells := 0, slots := 0, locals := 22 } : Room)) (fun Q up => ?_)
  refine lv_iload_n hx hb dX12_wealth_0 rfl (lv_at hl 1 rfl) ?_
  refine lv_iconst (v := 0) hx hb dX12_wealth_1 (by decide) ?_
  refine lv_iconst (v := 1) hx hb dX12_wealth_2 (by decide) ?_
  have hPc := hP.sub (ws' := []) [] rfl
  refine vp_callSi (va_runS (As := [.int x0, .int 0, .int 1]) (rest := []) ⟨hx, hb, hml, hown, hts⟩ (c_X12_isIn l D cI cB cL cZ cG x0 0 1) (va_cwS 3 hts gX12_wealth_X12_isIn rfl rfl rfl (by decide +kernel) ⟨Nat.le_of_ble_eq_true rfl, Nat.le_of_ble_eq_true rfl⟩) ⟨xr_blind, fun U hU hW => xr_mk hU hW hPc hK⟩ rfl rfl hl.1 rfl (lv_room (Nat.le_of_ble_eq_true rfl)) dX12_wealth_3 ⟨Nat.le_of_ble_eq_true rfl, Nat.le_of_ble_eq_true rfl⟩).run (fun r3 hr3 => ?_)
  clear hPc
  rcases hr3 with rfl | ⟨rfl, hr3_1_0, hr3_1_1⟩
  · refine lv_if_ne (tgt := 11) hx hb dX12_wealth_6 (by decide) (fun c6 => absurd (by decide) c6) (fun _ => ?_)
    refine lv_iconst (v := (-1)) hx hb dX12_wealth_9 (by decide) ?_
    exact up _ _ _ (W.iret (v := (-1)) hx hb hr (fun t ht hW => ⟨(-1), rfl, trivial, ht⟩) (fun q hq => by cases hq) dX12_wealth_10)
  · have by6r0_x0 : zB x0 0 2147483647 := zB_lev hr3_1_0 (show zB 0 0 0 from ⟨by decide, by decide⟩) (zB_top x0) (by decide)
    have bx6r1_x0 : zB x0 0 1 := zB_leu hr3_1_1 by6r0_x0 (show zB 1 1 1 from ⟨by decide, by decide⟩) (by decide)
    refine lv_if_ne (tgt := 11) hx hb dX12_wealth_6 (by decide) (fun _ => ?_) (fun c6 => absurd c6 (by decide))
    refine lv_iconst (v := 0) hx hb dX12_wealth_11 (by decide) ?_
    refine lv_istore_n (lv' := [(2, .int 0), (0, .ref MO), (1, .int x0)]) hx hb dX12_wealth_12 rfl hl (by decide) rfl (fun ls hl => ?_)
    refine lv_iconst (v := 0) hx hb dX12_wealth_13 (by decide) ?_
    have j15 : ∀ (n15 : Nat) (ls : Array Slot) (v15_3 : Int32) (v15_2 : Int32), zB v15_3 0 6 → zA MO_things 0 2 0 6 → zA MO_all 0 12 0 7 → (6 + 1 - v15_3.toInt) ≤ (n15 : Int) → lv_has ls 4 [(3, .int v15_3), (2, .int v15_2), (0, .ref MO), (1, .int x0)] → W p l e ({ frames := 1, cells := 0, slots := 0, locals := 22 } : Room) s m ([.ref MO, .int x0] : List Value).toArray below meth c s.heap [] 0 0 Q (F0 m 15 ls []) := by
      intro n15
      induction n15 with
      | zero => intro ls v15_3 v15_2 bv15_3_k15 sMO_things_0_k15 sMO_all_0_k15 hm15 hl; exact zM_u0 bv15_3_k15 hm15
      | succ n15 ih15 =>
        intro ls v15_3 v15_2 bv15_3_k15 sMO_things_0_k15 sMO_all_0_k15 hm15 hl
        refine lv_iload_n hx hb dX12_wealth_15 rfl (lv_at hl 0 rfl) ?_
        refine lv_aload_n hx hb dX12_wealth_16 rfl (lv_at hl 2 rfl) ?_
        have hPc := hP.sub (ws' := [(MO, .inr (12, oX12 aMO MO_taped MO_size MO_faultKind MO_faultPlace MO_at MO_end MO_token MO_number MO_name MO_bank MO_rb MO_codes MO_within MO_piled MO_unitsInRule MO_askThing MO_acts MO_undone MO_laid MO_heards MO_time)), ((aMO 13), .inl (cI, 2, .inl MO_things))]) [0, 1] rfl
        refine vp_callSi (va_runV (As := []) (rest := [.int v15_3]) ⟨hx, hb, hml, hown, hts⟩ (c_X12_many l D cI cB cL cZ cG MO aMO MO_taped MO_size MO_faultKind MO_faultPlace MO_at MO_end MO_token MO_number MO_name MO_bank MO_rb MO_codes MO_within MO_piled MO_unitsInRule MO_askThing MO_acts MO_undone MO_laid MO_heards MO_time MO_things b_MO_taped b_MO_size b_MO_faultKind b_MO_at b_MO_end b_MO_token b_MO_bank b_MO_rb b_MO_codes b_MO_within b_MO_piled b_MO_unitsInRule b_MO_askThing b_MO_acts b_MO_undone b_MO_laid b_MO_heards b_MO_time sMO_things_0_k15) (cwV 0 hts gX12_wealth_X12_many rfl rfl rfl (by decide +kernel) ⟨Nat.le_of_ble_eq_true rfl, Nat.le_of_ble_eq_true rfl⟩) ⟨xr_blind, va_recv hK hP (ci := 12) (q0 := 0) rfl rfl, fun U hU hW => xr_mk hU hW hPc hK⟩ rfl rfl hl.1 rfl (lv_room (Nat.le_of_ble_eq_true rfl)) dX12_wealth_17 ⟨Nat.le_of_ble_eq_true rfl, Nat.le_of_ble_eq_true rfl⟩).run (fun r17 hr17 => ?_)
        obtain ⟨hr17, p17_v, p17_i⟩ := hr17
        clear hPc
        refine lv_icmp_ge (tgt := 57) hx hb dX12_wealth_20 (by decide) (fun c20 => ?_) (fun c20 => ?_)
        · refine lv_iload_n hx hb dX12_wealth_57 rfl (lv_at hl 1 rfl) ?_
          exact up _ _ _ (W.iret (v := v15_2) hx hb hr (fun t ht hW => ⟨v15_2, rfl, trivial, ht⟩) (fun q hq => by cases hq) dX12_wealth_58)
        · have bx20f_v15_3 : zB v15_3 0 5 := zB_ltu (zf c20) bv15_3_k15 hr17 (by decide)
          have by20f_r17 : zB r17 1 6 := zB_ltv (zf c20) bx20f_v15_3 hr17 (by decide)
          refine lv_iload_n hx hb dX12_wealth_23 rfl (lv_at hl 1 rfl) ?_
          refine lv_aload_n hx hb dX12_wealth_24 rfl (lv_at hl 2 rfl) ?_
          refine va_get (D := D) (ci := 12) (v := .ref (aMO 42)) (C := RX12) (T := TX12) (N := 71) hx hb hts iw_X12_wealth_X12 hown hK hP 0 rfl rfl 42 (by decide) (hts (.fieldLink RX12 95 "SoldHouseModel" "all" "[I") (List.mem_of_getElem? (i := 1) rfl)) (fun _ h9 => h9) rfl dX12_wealth_25 ?_
          refine lv_bipush (v := 12) hx hb dX12_wealth_28 (by decide) ?_
          refine lv_iload_n hx hb dX12_wealth_30 rfl (lv_at hl 0 rfl) ?_
          refine lv_iadd hx hb dX12_wealth_31 ?_
          refine zi_top (a := 12) (b := 17) (zB_add (show zB 12 12 12 from ⟨by decide, by decide⟩) bx20f_v15_3 (by decide) (by decide) (by decide) (by decide)) (fun y31 by31 => ?_)
          refine va_iald hx hb hK hP 2 0 rfl rfl (zB_in by31 (by decide) (by decide)) dX12_wealth_32 ?_
          refine lv_topi (fun y32 _ => ?_)
          refine lv_iconst (v := 1) hx hb dX12_wealth_33 (by decide) ?_
          refine lv_iload_n hx hb dX12_wealth_34 rfl (lv_at hl 3 rfl) ?_
          refine lv_isub hx hb dX12_wealth_35 ?_
          refine zi_top (a := 0) (b := 1) (zB_sub (show zB 1 1 1 from ⟨by decide, by decide⟩) bx6r1_x0 (by decide) (by decide) (by decide) (by decide)) (fun y35 by35 => ?_)
          have j49 : ∀ (ls : Array Slot) (u49_0 : Int32), zA MO_things 0 2 0 6 → zA MO_all 0 12 0 7 → lv_has ls 4 [(3, .int v15_3), (2, .int v15_2), (0, .ref MO), (1, .int x0)] → W p l e ({ frames := 1, cells := 0, slots := 0, locals := 22 } : Room) s m ([.ref MO, .int x0] : List Value).toArray below meth c s.heap [] 0 0 Q (F0 m 49 ls [.int u49_0, .int v15_2]) := by
            intro ls u49_0 sMO_things_0_k49 sMO_all_0_k49 hl
            refine lv_iadd hx hb dX12_wealth_49 ?_
            refine lv_topi (fun y49 _ => ?_)
            refine lv_istore_n (lv' := [(2, .int y49), (3, .int v15_3), (0, .ref MO), (1, .int x0)]) hx hb dX12_wealth_50 rfl hl (by decide) rfl (fun ls hl => ?_)
            obtain ⟨y51, by51, ry51, ey51⟩ := zi_inc (x := v15_3) (k := 1) (a := 1) (b := 6) bx20f_v15_3 (by decide) (by decide) (by decide) (by decide) (by decide)
            refine lv_iinc (v := y51) (lv' := [(3, .int y51), (2, .int y49), (0, .ref MO), (1, .int x0)]) hx hb dX12_wealth_51 hl (k := 1) rfl ey51 (by decide) rfl (fun ls hl => ?_)
            refine lv_goto (tgt := 15) hx hb dX12_wealth_54 (by decide) ?_
            exact ih15 ls y51 y49 (zB_w by51 (by decide) (by decide)) sMO_things_0_k49 sMO_all_0_k49 (zM_us (k := 1) hm15 ry51 (by decide)) (lv_sub hl [0, 1, 2, 3] rfl)
          refine lv_icmp_ne (tgt := 48) hx hb dX12_wealth_36 (by decide) (fun c36 => ?_) (fun c36 => ?_)
          · refine lv_iconst (v := 0) hx hb dX12_wealth_48 (by decide) ?_
            exact j49 ls 0 sMO_things_0_k15 sMO_all_0_k15 (lv_sub hl [0, 1, 2, 3] rfl)
          · have be36f_y32 : zB y32 0 1 := zB_eq c36 (zB_top y32) by35 (by decide) (by decide)
            refine lv_aload_n hx hb dX12_wealth_39 rfl (lv_at hl 2 rfl) ?_
            refine lv_iload_n hx hb dX12_wealth_40 rfl (lv_at hl 0 rfl) ?_
            refine lv_iload_n hx hb dX12_wealth_41 rfl (lv_at hl 3 rfl) ?_
            have hPc := hP.sub (ws' := [(MO, .inr (12, oX12 aMO MO_taped MO_size MO_faultKind MO_faultPlace MO_at MO_end MO_token MO_number MO_name MO_bank MO_rb MO_codes MO_within MO_piled MO_unitsInRule MO_askThing MO_acts MO_undone MO_laid MO_heards MO_time)), ((aMO 23), .inl (cI, 12, .inl MO_toThem)), ((aMO 22), .inl (cI, 12, .inl MO_toUs))]) [0, 3, 4] rfl
            refine vp_callSi (va_runV (As := [.int v15_3, .int x0]) (rest := [.int v15_2]) ⟨hx, hb, hml, hown, hts⟩ (c_X12_worthOf l D cI cB cL cZ cG MO v15_3 x0 aMO MO_taped MO_size MO_faultKind MO_faultPlace MO_at MO_end MO_token MO_number MO_name MO_bank MO_rb MO_codes MO_within MO_piled MO_unitsInRule MO_askThing MO_acts MO_undone MO_laid MO_heards MO_time MO_toThem MO_toUs bx20f_v15_3 b_MO_taped b_MO_size b_MO_faultKind b_MO_at b_MO_end b_MO_token b_MO_bank b_MO_rb b_MO_codes b_MO_within b_MO_piled b_MO_unitsInRule b_MO_askThing b_MO_acts b_MO_undone b_MO_laid b_MO_heards b_MO_time) (cwV 2 hts gX12_wealth_X12_worthOf rfl rfl rfl (by decide +kernel) ⟨Nat.le_of_ble_eq_true rfl, Nat.le_of_ble_eq_true rfl⟩) ⟨xr_blind, va_recv hK hP (ci := 12) (q0 := 0) rfl rfl, fun U hU hW => xr_mk hU hW hPc hK⟩ rfl rfl hl.1 rfl (lv_room (Nat.le_of_ble_eq_true rfl)) dX12_wealth_42 ⟨Nat.le_of_ble_eq_true rfl, Nat.le_of_ble_eq_true rfl⟩).run (fun r42 hr42 => ?_)
            clear hPc
            clear hr42
            refine lv_goto (tgt := 49) hx hb dX12_wealth_45 (by decide) ?_
            exact j49 ls r42 sMO_things_0_k15 sMO_all_0_k15 (lv_sub hl [0, 1, 2, 3] rfl)
    refine lv_istore_n (lv' := [(3, .int 0), (2, .int 0), (0, .ref MO), (1, .int x0)]) hx hb dX12_wealth_14 rfl hl (by decide) rfl (fun ls hl => ?_)
    exact j15 7 ls 0 0 (zB_w (show zB 0 0 0 from ⟨by decide, by decide⟩) (by decide) (by decide)) s_MO_things_0 s_MO_all_0 (zM_ui (show zB 0 0 0 from ⟨by decide, by decide⟩) (by decide)) (lv_sub hl [0, 1, 2, 3] rfl)
set_option maxHeartbeats 4000000 in
set_option maxRecDepth 100000 in
theorem c_X12_off (l : Launch) (D : va_G) (cI : ClassId) (cB : ClassId) (cL : ClassId) (cZ : ClassId) (cG : ClassId) (MO : Nat) (aMO : Nat → Nat) (MO_taped : Int32) (MO_size : Int32) (MO_faultKind : Int32) (MO_faultPlace : Int32) (MO_at : Int32) (MO_end : Int32) (MO_token : Int32) (MO_number : Int32) (MO_name : Int64) (MO_bank : Int32) (MO_rb : Int32) (MO_codes : Int32) (MO_within : Int32) (MO_piled : Int32) (MO_unitsInRule : Int32) (MO_askThing : Int32) (MO_acts : Int32) (MO_undone : Int32) (MO_laid : Int32) (MO_heards : Int32) (MO_time : Int32) (MO_things : Nat → Int32) (MO_all : Nat → Int32) (MO_table : Nat → Int32) (b_MO_taped : zB MO_taped 0 1600) (b_MO_size : zB MO_size 0 1600) (b_MO_faultKind : zB MO_faultKind 0 5) (b_MO_at : zB MO_at 0 1600) (b_MO_end : zB MO_end 0 1600) (b_MO_token : zB MO_token 0 5) (b_MO_bank : zB MO_bank 0 1) (b_MO_rb : zB MO_rb 0 1) (b_MO_codes : zB MO_codes 0 1120) (b_MO_within : zB MO_within 0 7) (b_MO_piled : zB MO_piled 0 89) (b_MO_unitsInRule : zB MO_unitsInRule 0 30) (b_MO_askThing : zB MO_askThing 0 5) (b_MO_acts : zB MO_acts 0 40) (b_MO_undone : zB MO_undone 0 40) (b_MO_laid : zB MO_laid 0 8) (b_MO_heards : zB MO_heards 0 30) (b_MO_time : zB MO_time 0 100000) (s_MO_things_0 : zA MO_things 0 2 0 6) (s_MO_all_0 : zA MO_all 0 12 0 7) (s_MO_table_0 : zA MO_table 0 64 0 10000) : Met l yX12_off wsX12_off ({ frames := 2, cells := 0, slots := 0, locals := 43 }) (xr D [(cI, .int), (cB, .byte), (cL, .long), (cZ, .boolean), (cG, .array .int)] [(MO, .inr (12, oX12 aMO MO_taped MO_size MO_faultKind MO_faultPlace MO_at MO_end MO_token MO_number MO_name MO_bank MO_rb MO_codes MO_within MO_piled MO_unitsInRule MO_askThing MO_acts MO_undone MO_laid MO_heards MO_time)), ((aMO 13), .inl (cI, 2, .inl MO_things)), ((aMO 42), .inl (cI, 32, .inl MO_all)), ((aMO 43), .inl (cI, 64, .inl MO_table))] [.ref MO]) (vp_Si (fun r => True)) 0 0 (fun _ => False) := by
  refine Met.ofW (cc := cX12_off) (maxL := 3) (ret := (some .int)) (by decide) rfl ?_
  intro p e s m args below meth c s₁ B hml hv
  obtain ⟨rfl, hP, hK⟩ := hv
  have hx := B.exec
  have hb := B.bytes
  have hr := B.returns
  have hts := atoms_spec (ws := wsX12_off) B.pre
  have hown : s.vm.findClass RX12 = some m.cls := findClass_of_methodNamed B.named
  have hlocks := B.notSynchronized
  clear B
  have hl := lv_entry ([.ref MO]) (n := 3) (Nat.le_of_ble_eq_true rfl)
  rw [lg_entry_eq]
  generalize (lg_sl ([.ref MO]) ++ List.replicate (3 - (lg_sl ([.ref MO])).length) Slot.unset).toArray = ls at hl ⊢
  replace hl : lv_has ls 3 [(0, .ref MO)] := hl
  refine zz_abs (R := ({ frames := 2, cells := 0, slots := 0, locals := 43 } : Room)) (fun Q up => ?_)
  refine lv_iconst (v := 0) hx hb dX12_off_0 (by decide) ?_
  refine lv_istore_n (lv' := [(1, .int 0), (0, .ref MO)]) hx hb dX12_off_1 rfl hl (by decide) rfl (fun ls hl => ?_)
  refine lv_iconst (v := 0) hx hb dX12_off_2 (by decide) ?_
  have j4 : ∀ (n4 : Nat) (ls : Array Slot) (v4_2 : Int32) (v4_1 : Int32), zB v4_2 0 6 → zA MO_things 0 2 0 6 → zA MO_all 0 12 0 7 → zA MO_table 0 64 0 10000 → (6 + 1 - v4_2.toInt) ≤ (n4 : Int) → lv_has ls 3 [(2, .int v4_2), (1, .int v4_1), (0, .ref MO)] → W p l e ({ frames := 2, cells := 0, slots := 0, locals := 43 } : Room) s m ([.ref MO] : List Value).toArray below meth c s.heap [] 0 0 Q (F0 m 4 ls []) := by
    intro n4
    induction n4 with
    | zero => intro ls v4_2 v4_1 bv4_2_k4 sMO_things_0_k4 sMO_all_0_k4 sMO_table_0_k4 hm4 hl; exact zM_u0 bv4_2_k4 hm4
    | succ n4 ih4 =>
      intro ls v4_2 v4_1 bv4_2_k4 sMO_things_0_k4 sMO_all_0_k4 sMO_table_0_k4 hm4 hl
      refine lv_iload_n hx hb dX12_off_4 rfl (lv_at hl 0 rfl) ?_
      refine lv_aload_n hx hb dX12_off_5 rfl (lv_at hl 2 rfl) ?_
      have hPc := hP.sub (ws' := [(MO, .inr (12, oX12 aMO MO_taped MO_size MO_faultKind MO_faultPlace MO_at MO_end MO_token MO_number MO_name MO_bank MO_rb MO_codes MO_within MO_piled MO_unitsInRule MO_askThing MO_acts MO_undone MO_laid MO_heards MO_time)), ((aMO 13), .inl (cI, 2, .inl MO_things))]) [0, 1] rfl
      refine vp_callSi (va_runV (As := []) (rest := [.int v4_2]) ⟨hx, hb, hml, hown, hts⟩ (c_X12_many l D cI cB cL cZ cG MO aMO MO_taped MO_size MO_faultKind MO_faultPlace MO_at MO_end MO_token MO_number MO_name MO_bank MO_rb MO_codes MO_within MO_piled MO_unitsInRule MO_askThing MO_acts MO_undone MO_laid MO_heards MO_time MO_things b_MO_taped b_MO_size b_MO_faultKind b_MO_at b_MO_end b_MO_token b_MO_bank b_MO_rb b_MO_codes b_MO_within b_MO_piled b_MO_unitsInRule b_MO_askThing b_MO_acts b_MO_undone b_MO_laid b_MO_heards b_MO_time sMO_things_0_k4) (cwV 0 hts gX12_off_X12_many rfl rfl rfl (by decide +kernel) ⟨Nat.le_of_ble_eq_true rfl, Nat.le_of_ble_eq_true rfl⟩) ⟨xr_blind, va_recv hK hP (ci := 12) (q0 := 0) rfl rfl, fun U hU hW => xr_mk hU hW hPc hK⟩ rfl rfl hl.1 rfl (lv_room (Nat.le_of_ble_eq_true rfl)) dX12_off_6 ⟨Nat.le_of_ble_eq_true rfl, Nat.le_of_ble_eq_true rfl⟩).run (fun r6 hr6 => ?_)
      obtain ⟨hr6, p6_v, p6_i⟩ := hr6
      clear hPc
      refine lv_icmp_ge (tgt := 26) hx hb dX12_off_9 (by decide) (fun c9 => ?_) (fun c9 => ?_)
      · refine lv_iload_n hx hb dX12_off_26 rfl (lv_at hl 1 rfl) ?_
        exact up _ _ _ (W.iret (v := v4_1) hx hb hr (fun t ht hW => ⟨v4_1, rfl, trivial, ht⟩) (fun q hq => by cases hq) dX12_off_27)
      · have bx9f_v4_2 : zB v4_2 0 5 := zB_ltu (zf c9) bv4_2_k4 hr6 (by decide)
        have by9f_r6 : zB r6 1 6 := zB_ltv (zf c9) bx9f_v4_2 hr6 (by decide)
        refine lv_iload_n hx hb dX12_off_12 rfl (lv_at hl 1 rfl) ?_
        refine lv_aload_n hx hb dX12_off_13 rfl (lv_at hl 2 rfl) ?_
        refine lv_iload_n hx hb dX12_off_14 rfl (lv_at hl 0 rfl) ?_
        have hPc := hP.sub (ws' := [(MO, .inr (12, oX12 aMO MO_taped MO_size MO_faultKind MO_faultPlace MO_at MO_end MO_token MO_number MO_name MO_bank MO_rb MO_codes MO_within MO_piled MO_unitsInRule MO_askThing MO_acts MO_undone MO_laid MO_heards MO_time)), ((aMO 42), .inl (cI, 32, .inl MO_all)), ((aMO 43), .inl (cI, 64, .inl MO_table))]) [0, 2, 3] rfl
        refine vp_callSi (va_runV (As := [.int v4_2]) (rest := [.int v4_1]) ⟨hx, hb, hml, hown, hts⟩ (c_X12_offOf l D cI cB cL cZ cG MO v4_2 aMO MO_taped MO_size MO_faultKind MO_faultPlace MO_at MO_end MO_token MO_number MO_name MO_bank MO_rb MO_codes MO_within MO_piled MO_unitsInRule MO_askThing MO_acts MO_undone MO_laid MO_heards MO_time MO_all MO_table bx9f_v4_2 b_MO_taped b_MO_size b_MO_faultKind b_MO_at b_MO_end b_MO_token b_MO_bank b_MO_rb b_MO_codes b_MO_within b_MO_piled b_MO_unitsInRule b_MO_askThing b_MO_acts b_MO_undone b_MO_laid b_MO_heards b_MO_time sMO_all_0_k4 sMO_table_0_k4) (cwV 1 hts gX12_off_X12_offOf rfl rfl rfl (by decide +kernel) ⟨Nat.le_of_ble_eq_true rfl, Nat.le_of_ble_eq_true rfl⟩) ⟨xr_blind, va_recv hK hP (ci := 12) (q0 := 0) rfl rfl, fun U hU hW => xr_mk hU hW hPc hK⟩ rfl rfl hl.1 rfl (lv_room (Nat.le_of_ble_eq_true rfl)) dX12_off_15 ⟨Nat.le_of_ble_eq_true rfl, Nat.le_of_ble_eq_true rfl⟩).run (fun r15 hr15 => ?_)
        clear hPc
        clear hr15
        refine lv_iadd hx hb dX12_off_18 ?_
        refine lv_topi (fun y18 _ => ?_)
        refine lv_istore_n (lv' := [(1, .int y18), (2, .int v4_2), (0, .ref MO)]) hx hb dX12_off_19 rfl hl (by decide) rfl (fun ls hl => ?_)
        obtain ⟨y20, by20, ry20, ey20⟩ := zi_inc (x := v4_2) (k := 1) (a := 1) (b := 6) bx9f_v4_2 (by decide) (by decide) (by decide) (by decide) (by decide)
        refine lv_iinc (v := y20) (lv' := [(2, .int y20), (1, .int y18), (0, .ref MO)]) hx hb dX12_off_20 hl (k := 1) rfl ey20 (by decide) rfl (fun ls hl => ?_)
        refine lv_goto (tgt := 4) hx hb dX12_off_23 (by decide) ?_
        exact ih4 ls y20 y18 (zB_w by20 (by decide) (by decide)) sMO_things_0_k4 sMO_all_0_k4 sMO_table_0_k4 (zM_us (k := 1) hm4 ry20 (by decide)) (lv_sub hl [0, 1, 2] rfl)
  refine lv_istore_n (lv' := [(2, .int 0), (1, .int 0), (0, .ref MO)]) hx hb dX12_off_3 rfl hl (by decide) rfl (fun ls hl => ?_)
  exact j4 7 ls 0 0 (zB_w (show zB 0 0 0 from ⟨by decide, by decide⟩) (by decide) (by decide)) s_MO_things_0 s_MO_all_0 s_MO_table_0 (zM_ui (show zB 0 0 0 from ⟨by decide, by decide⟩) (by decide)) (lv_sub hl [0, 1, 2] rfl)
set_option maxHeartbeats 4000000 in
set_option maxRecDepth 100000 in
theorem c_X12_right (l : Launch) (D : va_G) (cI : ClassId) (cB : ClassId) (cL : ClassId) (cZ : ClassId) (cG : ClassId) (MO : Nat) (aMO : Nat → Nat) (MO_taped : Int32) (MO_size : Int32) (MO_faultKind : Int32) (MO_faultPlace : Int32) (MO_at : Int32) (MO_end : Int32) (MO_token : Int32) (MO_number : Int32) (MO_name : Int64) (MO_bank : Int32) (MO_rb : Int32) (MO_codes : Int32) (MO_within : Int32) (MO_piled : Int32) (MO_unitsInRule : Int32) (MO_askThing : Int32) (MO_acts : Int32) (MO_undone : Int32) (MO_laid : Int32) (MO_heards : Int32) (MO_time : Int32) (MO_things : Nat → Int32) (MO_all : Nat → Int32) (b_MO_taped : zB MO_taped 0 1600) (b_MO_size : zB MO_size 0 1600) (b_MO_faultKind : zB MO_faultKind 0 5) (b_MO_at : zB MO_at 0 1600) (b_MO_end : zB MO_end 0 1600) (b_MO_token : zB MO_token 0 5) (b_MO_bank : zB MO_bank 0 1) (b_MO_rb : zB MO_rb 0 1) (b_MO_codes : zB MO_codes 0 1120) (b_MO_within : zB MO_within 0 7) (b_MO_piled : zB MO_piled 0 89) (b_MO_unitsInRule : zB MO_unitsInRule 0 30) (b_MO_askThing : zB MO_askThing 0 5) (b_MO_acts : zB MO_acts 0 40) (b_MO_undone : zB MO_undone 0 40) (b_MO_laid : zB MO_laid 0 8) (b_MO_heards : zB MO_heards 0 30) (b_MO_time : zB MO_time 0 100000) (s_MO_things_0 : zA MO_things 0 2 0 6) (s_MO_all_0 : zA MO_all 0 12 0 7) : Met l yX12_right wsX12_right ({ frames := 2, cells := 0, slots := 0, locals := 42 }) (xr D [(cI, .int), (cB, .byte), (cL, .long), (cZ, .boolean), (cG, .array .int)] [(MO, .inr (12, oX12 aMO MO_taped MO_size MO_faultKind MO_faultPlace MO_at MO_end MO_token MO_number MO_name MO_bank MO_rb MO_codes MO_within MO_piled MO_unitsInRule MO_askThing MO_acts MO_undone MO_laid MO_heards MO_time)), ((aMO 13), .inl (cI, 2, .inl MO_things)), ((aMO 42), .inl (cI, 32, .inl MO_all))] [.ref MO]) (vp_Si (fun r => zB r 0 63)) 0 0 (fun _ => False) := by
  refine Met.ofW (cc := cX12_right) (maxL := 1) (ret := (some .int)) (by decide) rfl ?_
  intro p e s m args below meth c s₁ B hml hv
  obtain ⟨rfl, hP, hK⟩ := hv
  have hx := B.exec
  have hb := B.bytes
  have hr := B.returns
  have hts := atoms_spec (ws := wsX12_right) B.pre
  have hown : s.vm.findClass RX12 = some m.cls := findClass_of_methodNamed B.named
  have hlocks := B.notSynchronized
  clear B
  have hl := lv_entry ([.ref MO]) (n := 1) (Nat.le_of_ble_eq_true rfl)
  rw [lg_entry_eq]
  generalize (lg_sl ([.ref MO]) ++ List.replicate (1 - (lg_sl ([.ref MO])).length) Slot.unset).toArray = ls at hl ⊢
  replace hl : lv_has ls 1 [(0, .ref MO)] := hl
  refine lv_aload_n hx hb dX12_right_0 rfl (lv_at hl 0 rfl) ?_
  have hPc := hP.sub (ws' := [(MO, .inr (12, oX12 aMO MO_taped MO_size MO_faultKind MO_faultPlace MO_at MO_end MO_token MO_number MO_name MO_bank MO_rb MO_codes MO_within MO_piled MO_unitsInRule MO_askThing MO_acts MO_undone MO_laid MO_heards MO_time)), ((aMO 13), .inl (cI, 2, .inl MO_things)), ((aMO 42), .inl (cI, 32, .inl MO_all))]) [0, 1, 2] rfl
  refine vp_callSi (va_runV (As := []) (rest := []) ⟨hx, hb, hml, hown, hts⟩ (c_X12_rightOnes l D cI cB cL cZ cG MO aMO MO_taped MO_size MO_faultKind MO_faultPlace MO_at MO_end MO_token MO_number MO_name MO_bank MO_rb MO_codes MO_within MO_piled MO_unitsInRule MO_askThing MO_acts MO_undone MO_laid MO_heards MO_time MO_things MO_all b_MO_taped b_MO_size b_MO_faultKind b_MO_at b_MO_end b_MO_token b_MO_bank b_MO_rb b_MO_codes b_MO_within b_MO_piled b_MO_unitsInRule b_MO_askThing b_MO_acts b_MO_undone b_MO_laid b_MO_heards b_MO_time s_MO_things_0 s_MO_all_0) (cwV 0 hts gX12_right_X12_rightOnes rfl rfl rfl (by decide +kernel) ⟨Nat.le_of_ble_eq_true rfl, Nat.le_of_ble_eq_true rfl⟩) ⟨xr_blind, va_recv hK hP (ci := 12) (q0 := 0) rfl rfl, fun U hU hW => xr_mk hU hW hPc hK⟩ rfl rfl hl.1 rfl (lv_room (Nat.le_of_ble_eq_true rfl)) dX12_right_1 ⟨Nat.le_of_ble_eq_true rfl, Nat.le_of_ble_eq_true rfl⟩).run (fun r1 hr1 => ?_)
  clear hPc
  exact W.iret (v := r1) hx hb hr (fun t ht hW => ⟨r1, rfl, hr1, ht⟩) (fun q hq => by cases hq) dX12_right_4
set_option maxHeartbeats 4000000 in
set_option maxRecDepth 100000 in
theorem c_X12_deep (l : Launch) (D : va_G) (cI : ClassId) (cB : ClassId) (cL : ClassId) (cZ : ClassId) (cG : ClassId) (MO : Nat) (x0 : Int32) (aMO : Nat → Nat) (MO_taped : Int32) (MO_size : Int32) (MO_faultKind : Int32) (MO_faultPlace : Int32) (MO_at : Int32) (MO_end : Int32) (MO_token : Int32) (MO_number : Int32) (MO_name : Int64) (MO_bank : Int32) (MO_rb : Int32) (MO_codes : Int32) (MO_within : Int32) (MO_piled : Int32) (MO_unitsInRule : Int32) (MO_askThing : Int32) (MO_acts : Int32) (MO_undone : Int32) (MO_laid : Int32) (MO_heards : Int32) (MO_time : Int32) (MO_things : Nat → Int32) (MO_all : Nat → Int32) (b_MO_taped : zB MO_taped 0 1600) (b_MO_size : zB MO_size 0 1600) (b_MO_faultKind : zB MO_faultKind 0 5) (b_MO_at : zB MO_at 0 1600) (b_MO_end : zB MO_end 0 1600) (b_MO_token : zB MO_token 0 5) (b_MO_bank : zB MO_bank 0 1) (b_MO_rb : zB MO_rb 0 1) (b_MO_codes : zB MO_codes 0 1120) (b_MO_within : zB MO_within 0 7) (b_MO_piled : zB MO_piled 0 89) (b_MO_unitsInRule : zB MO_unitsInRule 0 30) (b_MO_askThing : zB MO_askThing 0 5) (b_MO_acts : zB MO_acts 0 40) (b_MO_undone : zB MO_undone 0 40) (b_MO_laid : zB MO_laid 0 8) (b_MO_heards : zB MO_heards 0 30) (b_MO_time : zB MO_time 0 100000) (s_MO_things_0 : zA MO_things 0 2 0 6) (s_MO_all_0 : zA MO_all 0 12 0 7) : Met l yX12_deep wsX12_deep ({ frames := 1, cells := 0, slots := 0, locals := 22 }) (xr D [(cI, .int), (cB, .byte), (cL, .long), (cZ, .boolean), (cG, .array .int)] [(MO, .inr (12, oX12 aMO MO_taped MO_size MO_faultKind MO_faultPlace MO_at MO_end MO_token MO_number MO_name MO_bank MO_rb MO_codes MO_within MO_piled MO_unitsInRule MO_askThing MO_acts MO_undone MO_laid MO_heards MO_time)), ((aMO 13), .inl (cI, 2, .inl MO_things)), ((aMO 42), .inl (cI, 32, .inl MO_all))] [.ref MO, .int x0]) (vp_Si (fun r => zB r (-1) 63)) 0 0 (fun _ => False) := by
  refine Met.ofW (cc := cX12_deep) (maxL := 4) (ret := (some .int)) (by decide) rfl ?_
  intro p e s m args below meth c s₁ B hml hv
  obtain ⟨rfl, hP, hK⟩ := hv
  have hx := B.exec
  have hb := B.bytes
  have hr := B.returns
  have hts := atoms_spec (ws := wsX12_deep) B.pre
  have hown : s.vm.findClass RX12 = some m.cls := findClass_of_methodNamed B.named
  have hlocks := B.notSynchronized
  clear B
  have hl := lv_entry ([.ref MO, .int x0]) (n := 4) (Nat.le_of_ble_eq_true rfl)
  rw [lg_entry_eq]
  generalize (lg_sl ([.ref MO, .int x0]) ++ List.replicate (4 - (lg_sl ([.ref MO, .int x0])).length) Slot.unset).toArray = ls at hl ⊢
  replace hl : lv_has ls 4 [(0, .ref MO), (1, .int x0)] := hl
  refine zz_abs (R := ({ frames := 1, cells := 0, slots := 0, locals := 22 } : Room)) (fun Q up => ?_)
  refine lv_iload_n hx hb dX12_deep_0 rfl (lv_at hl 1 rfl) ?_
  refine lv_iconst (v := 0) hx hb dX12_deep_1 (by decide) ?_
  refine lv_bipush (v := 99) hx hb dX12_deep_2 (by decide) ?_
  have hPc := hP.sub (ws' := []) [] rfl
  refine vp_callSi (va_runS (As := [.int x0, .int 0, .int 99]) (rest := []) ⟨hx, hb, hml, hown, hts⟩ (c_X12_isIn l D cI cB cL cZ cG x0 0 99) (va_cwS 3 hts gX12_deep_X12_isIn rfl rfl rfl (by decide +kernel) ⟨Nat.le_of_ble_eq_true rfl, Nat.le_of_ble_eq_true rfl⟩) ⟨xr_blind, fun U hU hW => xr_mk hU hW hPc hK⟩ rfl rfl hl.1 rfl (lv_room (Nat.le_of_ble_eq_true rfl)) dX12_deep_4 ⟨Nat.le_of_ble_eq_true rfl, Nat.le_of_ble_eq_true rfl⟩).run (fun r4 hr4 => ?_)
  clear hPc
  rcases hr4 with rfl | ⟨rfl, hr4_1_0, hr4_1_1⟩
  · refine lv_if_ne (tgt := 12) hx hb dX12_deep_7 (by decide) (fun c7 => absurd (by decide) c7) (fun _ => ?_)
    refine lv_iconst (v := (-1)) hx hb dX12_deep_10 (by decide) ?_
    exact up _ _ _ (W.iret (v := (-1)) hx hb hr (fun t ht hW => ⟨(-1), rfl, (zB_w (show zB (-1) (-1) (-1) from ⟨by decide, by decide⟩) (by decide) (by decide)), ht⟩) (fun q hq => by cases hq) dX12_deep_11)
  · have by7r0_x0 : zB x0 0 2147483647 := zB_lev hr4_1_0 (show zB 0 0 0 from ⟨by decide, by decide⟩) (zB_top x0) (by decide)
    have bx7r1_x0 : zB x0 0 99 := zB_leu hr4_1_1 by7r0_x0 (show zB 99 99 99 from ⟨by decide, by decide⟩) (by decide)
    refine lv_if_ne (tgt := 12) hx hb dX12_deep_7 (by decide) (fun _ => ?_) (fun c7 => absurd c7 (by decide))
    refine lv_iconst (v := 0) hx hb dX12_deep_12 (by decide) ?_
    refine lv_istore_n (lv' := [(2, .int 0), (0, .ref MO), (1, .int x0)]) hx hb dX12_deep_13 rfl hl (by decide) rfl (fun ls hl => ?_)
    refine lv_iconst (v := 0) hx hb dX12_deep_14 (by decide) ?_
    have j16 : ∀ (n16 : Nat) (ls : Array Slot) (v16_3 : Int32) (v16_2 : Int32), zB v16_3 0 6 → zB v16_2 0 63 → zA MO_things 0 2 0 6 → zA MO_all 0 12 0 7 → (6 + 1 - v16_3.toInt) ≤ (n16 : Int) → lv_has ls 4 [(3, .int v16_3), (2, .int v16_2), (0, .ref MO), (1, .int x0)] → W p l e ({ frames := 1, cells := 0, slots := 0, locals := 22 } : Room) s m ([.ref MO, .int x0] : List Value).toArray below meth c s.heap [] 0 0 Q (F0 m 16 ls []) := by
      intro n16
      induction n16 with
      | zero => intro ls v16_3 v16_2 bv16_3_k16 bv16_2_k16 sMO_things_0_k16 sMO_all_0_k16 hm16 hl; exact zM_u0 bv16_3_k16 hm16
      | succ n16 ih16 =>
        intro ls v16_3 v16_2 bv16_3_k16 bv16_2_k16 sMO_things_0_k16 sMO_all_0_k16 hm16 hl
        refine lv_iload_n hx hb dX12_deep_16 rfl (lv_at hl 0 rfl) ?_
        refine lv_aload_n hx hb dX12_deep_17 rfl (lv_at hl 2 rfl) ?_
        have hPc := hP.sub (ws' := [(MO, .inr (12, oX12 aMO MO_taped MO_size MO_faultKind MO_faultPlace MO_at MO_end MO_token MO_number MO_name MO_bank MO_rb MO_codes MO_within MO_piled MO_unitsInRule MO_askThing MO_acts MO_undone MO_laid MO_heards MO_time)), ((aMO 13), .inl (cI, 2, .inl MO_things))]) [0, 1] rfl
        refine vp_callSi (va_runV (As := []) (rest := [.int v16_3]) ⟨hx, hb, hml, hown, hts⟩ (c_X12_many l D cI cB cL cZ cG MO aMO MO_taped MO_size MO_faultKind MO_faultPlace MO_at MO_end MO_token MO_number MO_name MO_bank MO_rb MO_codes MO_within MO_piled MO_unitsInRule MO_askThing MO_acts MO_undone MO_laid MO_heards MO_time MO_things b_MO_taped b_MO_size b_MO_faultKind b_MO_at b_MO_end b_MO_token b_MO_bank b_MO_rb b_MO_codes b_MO_within b_MO_piled b_MO_unitsInRule b_MO_askThing b_MO_acts b_MO_undone b_MO_laid b_MO_heards b_MO_time sMO_things_0_k16) (cwV 0 hts gX12_deep_X12_many rfl rfl rfl (by decide +kernel) ⟨Nat.le_of_ble_eq_true rfl, Nat.le_of_ble_eq_true rfl⟩) ⟨xr_blind, va_recv hK hP (ci := 12) (q0 := 0) rfl rfl, fun U hU hW => xr_mk hU hW hPc hK⟩ rfl rfl hl.1 rfl (lv_room (Nat.le_of_ble_eq_true rfl)) dX12_deep_18 ⟨Nat.le_of_ble_eq_true rfl, Nat.le_of_ble_eq_true rfl⟩).run (fun r18 hr18 => ?_)
        obtain ⟨hr18, p18_v, p18_i⟩ := hr18
        clear hPc
        refine lv_icmp_ge (tgt := 49) hx hb dX12_deep_21 (by decide) (fun c21 => ?_) (fun c21 => ?_)
        · refine lv_iload_n hx hb dX12_deep_49 rfl (lv_at hl 1 rfl) ?_
          exact up _ _ _ (W.iret (v := v16_2) hx hb hr (fun t ht hW => ⟨v16_2, rfl, (zB_w bv16_2_k16 (by decide) (by decide)), ht⟩) (fun q hq => by cases hq) dX12_deep_50)
        · have bx21f_v16_3 : zB v16_3 0 5 := zB_ltu (zf c21) bv16_3_k16 hr18 (by decide)
          have by21f_r18 : zB r18 1 6 := zB_ltv (zf c21) bx21f_v16_3 hr18 (by decide)
          refine lv_aload_n hx hb dX12_deep_24 rfl (lv_at hl 2 rfl) ?_
          refine va_get (D := D) (ci := 12) (v := .ref (aMO 42)) (C := RX12) (T := TX12) (N := 71) hx hb hts iw_X12_deep_X12 hown hK hP 0 rfl rfl 42 (by decide) (hts (.fieldLink RX12 95 "SoldHouseModel" "all" "[I") (List.mem_of_getElem? (i := 1) rfl)) (fun _ h9 => h9) rfl dX12_deep_25 ?_
          refine lv_bipush (v := 18) hx hb dX12_deep_28 (by decide) ?_
          refine lv_iload_n hx hb dX12_deep_30 rfl (lv_at hl 0 rfl) ?_
          refine lv_iadd hx hb dX12_deep_31 ?_
          refine zi_top (a := 18) (b := 23) (zB_add (show zB 18 18 18 from ⟨by decide, by decide⟩) bx21f_v16_3 (by decide) (by decide) (by decide) (by decide)) (fun y31 by31 => ?_)
          refine va_iald hx hb hK hP 2 0 rfl rfl (zB_in by31 (by decide) (by decide)) dX12_deep_32 ?_
          refine lv_topi (fun y32 _ => ?_)
          refine lv_iload_n hx hb dX12_deep_33 rfl (lv_at hl 3 rfl) ?_
          have j43 : ∀ (ls : Array Slot) (v43_2 : Int32), zB v43_2 0 63 → zA MO_things 0 2 0 6 → zA MO_all 0 12 0 7 → lv_has ls 4 [(3, .int v16_3), (2, .int v43_2), (0, .ref MO), (1, .int x0)] → W p l e ({ frames := 1, cells := 0, slots := 0, locals := 22 } : Room) s m ([.ref MO, .int x0] : List Value).toArray below meth c s.heap [] 0 0 Q (F0 m 43 ls []) := by
            intro ls v43_2 bv43_2_k43 sMO_things_0_k43 sMO_all_0_k43 hl
            obtain ⟨y43, by43, ry43, ey43⟩ := zi_inc (x := v16_3) (k := 1) (a := 1) (b := 6) bx21f_v16_3 (by decide) (by decide) (by decide) (by decide) (by decide)
            refine lv_iinc (v := y43) (lv' := [(3, .int y43), (2, .int v43_2), (0, .ref MO), (1, .int x0)]) hx hb dX12_deep_43 hl (k := 0) rfl ey43 (by decide) rfl (fun ls hl => ?_)
            refine lv_goto (tgt := 16) hx hb dX12_deep_46 (by decide) ?_
            exact ih16 ls y43 v43_2 (zB_w by43 (by decide) (by decide)) bv43_2_k43 sMO_things_0_k43 sMO_all_0_k43 (zM_us (k := 1) hm16 ry43 (by decide)) (lv_sub hl [0, 1, 2, 3] rfl)
          refine lv_icmp_lt (tgt := 43) hx hb dX12_deep_34 (by decide) (fun c34 => ?_) (fun c34 => ?_)
          · have bx34t_y32 : zB y32 (-2147483648) 98 := zB_ltu (zl c34) (zB_top y32) bx7r1_x0 (by decide)
            exact j43 ls v16_2 bv16_2_k16 sMO_things_0_k16 sMO_all_0_k16 (lv_sub hl [0, 1, 2, 3] rfl)
          · have by34f_y32 : zB y32 0 2147483647 := zB_lev (zg c34) bx7r1_x0 (zB_top y32) (by decide)
            refine lv_iload_n hx hb dX12_deep_37 rfl (lv_at hl 1 rfl) ?_
            refine lv_iconst (v := 1) hx hb dX12_deep_38 (by decide) ?_
            refine lv_iload_n hx hb dX12_deep_39 rfl (lv_at hl 0 rfl) ?_
            refine lv_ishl hx hb dX12_deep_40 ?_
            refine zi_top (a := 1) (b := 32) (zB_shl1 bx21f_v16_3 (by decide) (by decide) (by decide) (by decide)) (fun y40 by40 => ?_)
            refine lv_ior hx hb dX12_deep_41 ?_
            refine zi_top (a := 1) (b := 63) (zB_or 6 bv16_2_k16 by40 (by decide) (by decide) (by decide) (by decide) (by decide) (by decide) (by decide)) (fun y41 by41 => ?_)
            refine lv_istore_n (lv' := [(2, .int y41), (3, .int v16_3), (0, .ref MO), (1, .int x0)]) hx hb dX12_deep_42 rfl hl (by decide) rfl (fun ls hl => ?_)
            exact j43 ls y41 (zB_w by41 (by decide) (by decide)) sMO_things_0_k16 sMO_all_0_k16 (lv_sub hl [1, 0, 2, 3] rfl)
    refine lv_istore_n (lv' := [(3, .int 0), (2, .int 0), (0, .ref MO), (1, .int x0)]) hx hb dX12_deep_15 rfl hl (by decide) rfl (fun ls hl => ?_)
    exact j16 7 ls 0 0 (zB_w (show zB 0 0 0 from ⟨by decide, by decide⟩) (by decide) (by decide)) (zB_w (show zB 0 0 0 from ⟨by decide, by decide⟩) (by decide) (by decide)) s_MO_things_0 s_MO_all_0 (zM_ui (show zB 0 0 0 from ⟨by decide, by decide⟩) (by decide)) (lv_sub hl [0, 1, 2, 3] rfl)
set_option maxHeartbeats 4000000 in
set_option maxRecDepth 100000 in
theorem c_X12_openAt (l : Launch) (D : va_G) (cI : ClassId) (cB : ClassId) (cL : ClassId) (cZ : ClassId) (cG : ClassId) (MO : Nat) (x0 : Int32) (x1 : Int32) (aMO : Nat → Nat) (MO_taped : Int32) (MO_size : Int32) (MO_faultKind : Int32) (MO_faultPlace : Int32) (MO_at : Int32) (MO_end : Int32) (MO_token : Int32) (MO_number : Int32) (MO_name : Int64) (MO_bank : Int32) (MO_rb : Int32) (MO_codes : Int32) (MO_within : Int32) (MO_piled : Int32) (MO_unitsInRule : Int32) (MO_askThing : Int32) (MO_acts : Int32) (MO_undone : Int32) (MO_laid : Int32) (MO_heards : Int32) (MO_time : Int32) (MO_rooms : Nat → Int32) (MO_hMinute : Nat → Int32) (MO_hTold : Nat → Int32) (MO_hUntold : Nat → Int32) (MO_hRoom : Nat → Int32) (MO_creaks : Nat → Int32) (MO_hCreaks : Nat → Int32) (MO_hIs : Nat → Int32) (b_MO_taped : zB MO_taped 0 1600) (b_MO_size : zB MO_size 0 1600) (b_MO_faultKind : zB MO_faultKind 0 5) (b_MO_at : zB MO_at 0 1600) (b_MO_end : zB MO_end 0 1600) (b_MO_token : zB MO_token 0 5) (b_MO_bank : zB MO_bank 0 1) (b_MO_rb : zB MO_rb 0 1) (b_MO_codes : zB MO_codes 0 1120) (b_MO_within : zB MO_within 0 7) (b_MO_piled : zB MO_piled 0 89) (b_MO_unitsInRule : zB MO_unitsInRule 0 30) (b_MO_askThing : zB MO_askThing 0 5) (b_MO_acts : zB MO_acts 0 40) (b_MO_undone : zB MO_undone 0 40) (b_MO_laid : zB MO_laid 0 8) (b_MO_heards : zB MO_heards 0 30) (b_MO_time : zB MO_time 0 100000) (s_MO_rooms_0 : zA MO_rooms 0 2 0 8) (s_MO_creaks_0 : zA MO_creaks 0 16 0 9) : Met l yX12_openAt wsX12_openAt ({ frames := 1, cells := 0, slots := 0, locals := 21 }) (xr D [(cI, .int), (cB, .byte), (cL, .long), (cZ, .boolean), (cG, .array .int)] [(MO, .inr (12, oX12 aMO MO_taped MO_size MO_faultKind MO_faultPlace MO_at MO_end MO_token MO_number MO_name MO_bank MO_rb MO_codes MO_within MO_piled MO_unitsInRule MO_askThing MO_acts MO_undone MO_laid MO_heards MO_time)), ((aMO 11), .inl (cI, 2, .inl MO_rooms)), ((aMO 59), .inl (cI, 30, .inl MO_hMinute)), ((aMO 63), .inl (cI, 30, .inl MO_hTold)), ((aMO 64), .inl (cI, 30, .inl MO_hUntold)), ((aMO 61), .inl (cI, 30, .inl MO_hRoom)), ((aMO 16), .inl (cI, 16, .inl MO_creaks)), ((aMO 60), .inl (cI, 30, .inl MO_hCreaks)), ((aMO 62), .inl (cI, 30, .inl MO_hIs))] [.ref MO, .int x0, .int x1]) (vp_Si (fun r => zB r 0 255)) 0 0 (fun _ => False) := by
  refine Met.ofW (cc := cX12_openAt) (maxL := 7) (ret := (some .int)) (by decide) rfl ?_
  intro p e s m args below meth c s₁ B hml hv
  obtain ⟨rfl, hP, hK⟩ := hv
  have hx := B.exec
  have hb := B.bytes
  have hr := B.returns
  have hts := atoms_spec (ws := wsX12_openAt) B.pre
  have hown : s.vm.findClass RX12 = some m.cls := findClass_of_methodNamed B.named
  have hlocks := B.notSynchronized
  clear B
  have hl := lv_entry ([.ref MO, .int x0, .int x1]) (n := 7) (Nat.le_of_ble_eq_true rfl)
  rw [lg_entry_eq]
  generalize (lg_sl ([.ref MO, .int x0, .int x1]) ++ List.replicate (7 - (lg_sl ([.ref MO, .int x0, .int x1])).length) Slot.unset).toArray = ls at hl ⊢
  replace hl : lv_has ls 7 [(0, .ref MO), (1, .int x0), (2, .int x1)] := hl
  refine zz_abs (R := ({ frames := 1, cells := 0, slots := 0, locals := 21 } : Room)) (fun Q up => ?_)
  refine lv_iconst (v := 1) hx hb dX12_openAt_0 (by decide) ?_
  refine lv_aload_n hx hb dX12_openAt_1 rfl (lv_at hl 0 rfl) ?_
  have hPc := hP.sub (ws' := [(MO, .inr (12, oX12 aMO MO_taped MO_size MO_faultKind MO_faultPlace MO_at MO_end MO_token MO_number MO_name MO_bank MO_rb MO_codes MO_within MO_piled MO_unitsInRule MO_askThing MO_acts MO_undone MO_laid MO_heards MO_time)), ((aMO 11), .inl (cI, 2, .inl MO_rooms))]) [0, 1] rfl
  refine vp_callSi (va_runV (As := []) (rest := [.int 1]) ⟨hx, hb, hml, hown, hts⟩ (c_X12_places l D cI cB cL cZ cG MO aMO MO_taped MO_size MO_faultKind MO_faultPlace MO_at MO_end MO_token MO_number MO_name MO_bank MO_rb MO_codes MO_within MO_piled MO_unitsInRule MO_askThing MO_acts MO_undone MO_laid MO_heards MO_time MO_rooms b_MO_taped b_MO_size b_MO_faultKind b_MO_at b_MO_end b_MO_token b_MO_bank b_MO_rb b_MO_codes b_MO_within b_MO_piled b_MO_unitsInRule b_MO_askThing b_MO_acts b_MO_undone b_MO_laid b_MO_heards b_MO_time s_MO_rooms_0) (cwV 0 hts gX12_openAt_X12_places rfl rfl rfl (by decide +kernel) ⟨Nat.le_of_ble_eq_true rfl, Nat.le_of_ble_eq_true rfl⟩) ⟨xr_blind, va_recv hK hP (ci := 12) (q0 := 0) rfl rfl, fun U hU hW => xr_mk hU hW hPc hK⟩ rfl rfl hl.1 rfl (lv_room (Nat.le_of_ble_eq_true rfl)) dX12_openAt_2 ⟨Nat.le_of_ble_eq_true rfl, Nat.le_of_ble_eq_true rfl⟩).run (fun r2 hr2 => ?_)
  obtain ⟨hr2, p2_v, p2_i⟩ := hr2
  clear hPc
  refine lv_ishl hx hb dX12_openAt_5 ?_
  refine zi_top (a := 1) (b := 256) (zB_shl1 hr2 (by decide) (by decide) (by decide) (by decide)) (fun y5 by5 => ?_)
  refine lv_iconst (v := 1) hx hb dX12_openAt_6 (by decide) ?_
  refine lv_isub hx hb dX12_openAt_7 ?_
  refine zi_top2 (P := fun y => y.toInt = y5.toInt + (-1)) (a := 0) (b := 255) (zB_sub by5 (show zB 1 1 1 from ⟨by decide, by decide⟩) (by decide) (by decide) (by decide) (by decide)) (zR_subc by5 (by decide) (by decide) (by decide)) (fun y7 by7 ry7 => ?_)
  refine lv_istore_n (lv' := [(3, .int y7), (0, .ref MO), (1, .int x0), (2, .int x1)]) hx hb dX12_openAt_8 rfl hl (by decide) rfl (fun ls hl => ?_)
  refine lv_iconst (v := 0) hx hb dX12_openAt_9 (by decide) ?_
  have j12 : ∀ (n12 : Nat) (ls : Array Slot) (v12_4 : Int32) (v12_3 : Int32), zB v12_4 0 30 → zB v12_3 0 255 → zA MO_rooms 0 2 0 8 → zA MO_creaks 0 16 0 9 → (30 + 1 - v12_4.toInt) ≤ (n12 : Int) → lv_has ls 7 [(4, .int v12_4), (3, .int v12_3), (0, .ref MO), (1, .int x0), (2, .int x1)] → W p l e ({ frames := 1, cells := 0, slots := 0, locals := 21 } : Room) s m ([.ref MO, .int x0, .int x1] : List Value).toArray below meth c s.heap [] 0 0 Q (F0 m 12 ls []) := by
    intro n12
    induction n12 with
    | zero => intro ls v12_4 v12_3 bv12_4_k12 bv12_3_k12 sMO_rooms_0_k12 sMO_creaks_0_k12 hm12 hl; exact zM_u0 bv12_4_k12 hm12
    | succ n12 ih12 =>
      intro ls v12_4 v12_3 bv12_4_k12 bv12_3_k12 sMO_rooms_0_k12 sMO_creaks_0_k12 hm12 hl
      refine lv_iload hx hb dX12_openAt_12 (lv_at hl 0 rfl) ?_
      refine lv_aload_n hx hb dX12_openAt_14 rfl (lv_at hl 2 rfl) ?_
      refine va_get (D := D) (ci := 12) (v := .int MO_heards) (C := RX12) (T := TX12) (N := 71) hx hb hts iw_X12_openAt_X12 hown hK hP 0 rfl rfl 67 (by decide) (hts (.fieldLink RX12 415 "SoldHouseModel" "heards" "I") (List.mem_of_getElem? (i := 1) rfl)) (fun _ h9 => h9) rfl dX12_openAt_15 ?_
      refine lv_icmp_ge (tgt := 174) hx hb dX12_openAt_18 (by decide) (fun c18 => ?_) (fun c18 => ?_)
      · refine lv_iload_n hx hb dX12_openAt_174 rfl (lv_at hl 1 rfl) ?_
        exact up _ _ _ (W.iret (v := v12_3) hx hb hr (fun t ht hW => ⟨v12_3, rfl, bv12_3_k12, ht⟩) (fun q hq => by cases hq) dX12_openAt_175)
      · have bx18f_v12_4 : zB v12_4 0 29 := zB_ltu (zf c18) bv12_4_k12 b_MO_heards (by decide)
        have by18f_MO_heards : zB MO_heards 1 30 := zB_ltv (zf c18) bx18f_v12_4 b_MO_heards (by decide)
        refine lv_aload_n hx hb dX12_openAt_21 rfl (lv_at hl 2 rfl) ?_
        refine va_get (D := D) (ci := 12) (v := .ref (aMO 59)) (C := RX12) (T := TX12) (N := 71) hx hb hts iw_X12_openAt_X12 hown hK hP 0 rfl rfl 59 (by decide) (hts (.fieldLink RX12 137 "SoldHouseModel" "hMinute" "[I") (List.mem_of_getElem? (i := 2) rfl)) (fun _ h9 => h9) rfl dX12_openAt_22 ?_
        refine lv_iload hx hb dX12_openAt_25 (lv_at hl 0 rfl) ?_
        refine va_iald hx hb hK hP 2 0 rfl rfl (zB_in bx18f_v12_4 (by decide) (by decide)) dX12_openAt_27 ?_
        refine lv_topi (fun y27 _ => ?_)
        refine lv_iload_n hx hb dX12_openAt_28 rfl (lv_at hl 3 rfl) ?_
        have j168 : ∀ (ls : Array Slot) (v168_3 : Int32), zB v168_3 0 255 → zA MO_rooms 0 2 0 8 → zA MO_creaks 0 16 0 9 → lv_has ls 7 [(4, .int v12_4), (3, .int v168_3), (0, .ref MO), (1, .int x0), (2, .int x1)] → W p l e ({ frames := 1, cells := 0, slots := 0, locals := 21 } : Room) s m ([.ref MO, .int x0, .int x1] : List Value).toArray below meth c s.heap [] 0 0 Q (F0 m 168 ls []) := by
          intro ls v168_3 bv168_3_k168 sMO_rooms_0_k168 sMO_creaks_0_k168 hl
          obtain ⟨y168, by168, ry168, ey168⟩ := zi_inc (x := v12_4) (k := 1) (a := 1) (b := 30) bx18f_v12_4 (by decide) (by decide) (by decide) (by decide) (by decide)
          refine lv_iinc (v := y168) (lv' := [(4, .int y168), (3, .int v168_3), (0, .ref MO), (1, .int x0), (2, .int x1)]) hx hb dX12_openAt_168 hl (k := 0) rfl ey168 (by decide) rfl (fun ls hl => ?_)
          refine lv_goto (tgt := 12) hx hb dX12_openAt_171 (by decide) ?_
          exact ih12 ls y168 v168_3 (zB_w by168 (by decide) (by decide)) bv168_3_k168 sMO_rooms_0_k168 sMO_creaks_0_k168 (zM_us (k := 1) hm12 ry168 (by decide)) (lv_sub hl [0, 1, 2, 3, 4] rfl)
        refine lv_icmp_ne (tgt := 168) hx hb dX12_openAt_29 (by decide) (fun c29 => ?_) (fun c29 => ?_)
        · exact j168 ls v12_3 bv12_3_k12 sMO_rooms_0_k12 sMO_creaks_0_k12 (lv_sub hl [0, 1, 2, 3, 4] rfl)
        · refine lv_aload_n hx hb dX12_openAt_32 rfl (lv_at hl 2 rfl) ?_
          refine va_get (D := D) (ci := 12) (v := .ref (aMO 63)) (C := RX12) (T := TX12) (N := 71) hx hb hts iw_X12_openAt_X12 hown hK hP 0 rfl rfl 63 (by decide) (hts (.fieldLink RX12 149 "SoldHouseModel" "hTold" "[I") (List.mem_of_getElem? (i := 3) rfl)) (fun _ h9 => h9) rfl dX12_openAt_33 ?_
          refine lv_iload hx hb dX12_openAt_36 (lv_at hl 0 rfl) ?_
          refine va_iald hx hb hK hP 3 0 rfl rfl (zB_in bx18f_v12_4 (by decide) (by decide)) dX12_openAt_38 ?_
          refine lv_topi (fun y38 _ => ?_)
          refine lv_iload_n hx hb dX12_openAt_39 rfl (lv_at hl 4 rfl) ?_
          refine lv_icmp_gt (tgt := 168) hx hb dX12_openAt_40 (by decide) (fun c40 => ?_) (fun c40 => ?_)
          · have bx40t_x1 : zB x1 (-2147483648) 2147483646 := zB_ltu (zl c40) (zB_top x1) (zB_top y38) (by decide)
            have by40t_y38 : zB y38 (-2147483647) 2147483647 := zB_ltv (zl c40) bx40t_x1 (zB_top y38) (by decide)
            exact j168 ls v12_3 bv12_3_k12 sMO_rooms_0_k12 sMO_creaks_0_k12 (lv_sub hl [0, 1, 2, 3, 4] rfl)
          · refine lv_aload_n hx hb dX12_openAt_43 rfl (lv_at hl 2 rfl) ?_
            refine va_get (D := D) (ci := 12) (v := .ref (aMO 64)) (C := RX12) (T := TX12) (N := 71) hx hb hts iw_X12_openAt_X12 hown hK hP 0 rfl rfl 64 (by decide) (hts (.fieldLink RX12 152 "SoldHouseModel" "hUntold" "[I") (List.mem_of_getElem? (i := 4) rfl)) (fun _ h9 => h9) rfl dX12_openAt_44 ?_
            refine lv_iload hx hb dX12_openAt_47 (lv_at hl 0 rfl) ?_
            refine va_iald hx hb hK hP 4 0 rfl rfl (zB_in bx18f_v12_4 (by decide) (by decide)) dX12_openAt_49 ?_
            refine lv_topi (fun y49 _ => ?_)
            have j67 : ∀ (ls : Array Slot), zA MO_rooms 0 2 0 8 → zA MO_creaks 0 16 0 9 → lv_has ls 7 [(4, .int v12_4), (3, .int v12_3), (0, .ref MO), (1, .int x0), (2, .int x1)] → W p l e ({ frames := 1, cells := 0, slots := 0, locals := 21 } : Room) s m ([.ref MO, .int x0, .int x1] : List Value).toArray below meth c s.heap [] 0 0 Q (F0 m 67 ls []) := by
              intro ls sMO_rooms_0_k67 sMO_creaks_0_k67 hl
              refine lv_iconst (v := 0) hx hb dX12_openAt_67 (by decide) ?_
              have j70 : ∀ (n70 : Nat) (ls : Array Slot) (v70_5 : Int32) (v70_3 : Int32), zB v70_5 0 8 → zB v70_3 0 255 → zA MO_rooms 0 2 0 8 → zA MO_creaks 0 16 0 9 → (8 + 1 - v70_5.toInt) ≤ (n70 : Int) → lv_has ls 7 [(5, .int v70_5), (4, .int v12_4), (3, .int v70_3), (0, .ref MO), (1, .int x0), (2, .int x1)] → W p l e ({ frames := 1, cells := 0, slots := 0, locals := 21 } : Room) s m ([.ref MO, .int x0, .int x1] : List Value).toArray below meth c s.heap [] 0 0 Q (F0 m 70 ls []) := by
                intro n70
                induction n70 with
                | zero => intro ls v70_5 v70_3 bv70_5_k70 bv70_3_k70 sMO_rooms_0_k70 sMO_creaks_0_k70 hm70 hl; exact zM_u0 bv70_5_k70 hm70
                | succ n70 ih70 =>
                  intro ls v70_5 v70_3 bv70_5_k70 bv70_3_k70 sMO_rooms_0_k70 sMO_creaks_0_k70 hm70 hl
                  refine lv_iload hx hb dX12_openAt_70 (lv_at hl 0 rfl) ?_
                  refine lv_aload_n hx hb dX12_openAt_72 rfl (lv_at hl 3 rfl) ?_
                  have hPc := hP.sub (ws' := [(MO, .inr (12, oX12 aMO MO_taped MO_size MO_faultKind MO_faultPlace MO_at MO_end MO_token MO_number MO_name MO_bank MO_rb MO_codes MO_within MO_piled MO_unitsInRule MO_askThing MO_acts MO_undone MO_laid MO_heards MO_time)), ((aMO 11), .inl (cI, 2, .inl MO_rooms))]) [0, 1] rfl
                  refine vp_callSi (va_runV (As := []) (rest := [.int v70_5]) ⟨hx, hb, hml, hown, hts⟩ (c_X12_places l D cI cB cL cZ cG MO aMO MO_taped MO_size MO_faultKind MO_faultPlace MO_at MO_end MO_token MO_number MO_name MO_bank MO_rb MO_codes MO_within MO_piled MO_unitsInRule MO_askThing MO_acts MO_undone MO_laid MO_heards MO_time MO_rooms b_MO_taped b_MO_size b_MO_faultKind b_MO_at b_MO_end b_MO_token b_MO_bank b_MO_rb b_MO_codes b_MO_within b_MO_piled b_MO_unitsInRule b_MO_askThing b_MO_acts b_MO_undone b_MO_laid (zB_w by18f_MO_heards (by decide) (by decide)) b_MO_time sMO_rooms_0_k70) (cwV 0 hts gX12_openAt_X12_places rfl rfl rfl (by decide +kernel) ⟨Nat.le_of_ble_eq_true rfl, Nat.le_of_ble_eq_true rfl⟩) ⟨xr_blind, va_recv hK hP (ci := 12) (q0 := 0) rfl rfl, fun U hU hW => xr_mk hU hW hPc hK⟩ rfl rfl hl.1 rfl (lv_room (Nat.le_of_ble_eq_true rfl)) dX12_openAt_73 ⟨Nat.le_of_ble_eq_true rfl, Nat.le_of_ble_eq_true rfl⟩).run (fun r73 hr73 => ?_)
                  obtain ⟨hr73, p73_v, p73_i⟩ := hr73
                  clear hPc
                  refine lv_icmp_ge (tgt := 168) hx hb dX12_openAt_76 (by decide) (fun c76 => ?_) (fun c76 => ?_)
                  · exact j168 ls v70_3 bv70_3_k70 sMO_rooms_0_k70 sMO_creaks_0_k70 (lv_sub hl [1, 2, 3, 4, 5] rfl)
                  · have bx76f_v70_5 : zB v70_5 0 7 := zB_ltu (zf c76) bv70_5_k70 hr73 (by decide)
                    have by76f_r73 : zB r73 1 8 := zB_ltv (zf c76) bx76f_v70_5 hr73 (by decide)
                    refine lv_aload_n hx hb dX12_openAt_79 rfl (lv_at hl 3 rfl) ?_
                    refine va_get (D := D) (ci := 12) (v := .ref (aMO 61)) (C := RX12) (T := TX12) (N := 71) hx hb hts iw_X12_openAt_X12 hown hK hP 0 rfl rfl 61 (by decide) (hts (.fieldLink RX12 143 "SoldHouseModel" "hRoom" "[I") (List.mem_of_getElem? (i := 5) rfl)) (fun _ h9 => h9) rfl dX12_openAt_80 ?_
                    refine lv_iload hx hb dX12_openAt_83 (lv_at hl 1 rfl) ?_
                    refine va_iald hx hb hK hP 5 0 rfl rfl (zB_in bx18f_v12_4 (by decide) (by decide)) dX12_openAt_85 ?_
                    refine lv_topi (fun y85 _ => ?_)
                    have j130 : ∀ (ls : Array Slot) (u130_0 : Int32), zB u130_0 0 1 → zA MO_rooms 0 2 0 8 → zA MO_creaks 0 16 0 9 → lv_has ls 7 [(5, .int v70_5), (4, .int v12_4), (3, .int v70_3), (0, .ref MO), (1, .int x0), (2, .int x1)] → W p l e ({ frames := 1, cells := 0, slots := 0, locals := 21 } : Room) s m ([.ref MO, .int x0, .int x1] : List Value).toArray below meth c s.heap [] 0 0 Q (F0 m 130 ls [.int u130_0]) := by
                      intro ls u130_0 bu130_0_k130 sMO_rooms_0_k130 sMO_creaks_0_k130 hl
                      refine lv_istore (lv' := [(6, .int u130_0), (5, .int v70_5), (4, .int v12_4), (3, .int v70_3), (0, .ref MO), (1, .int x0), (2, .int x1)]) hx hb dX12_openAt_130 hl (by decide) rfl (fun ls hl => ?_)
                      refine lv_iload hx hb dX12_openAt_132 (lv_at hl 0 rfl) ?_
                      refine lv_aload_n hx hb dX12_openAt_134 rfl (lv_at hl 4 rfl) ?_
                      refine va_get (D := D) (ci := 12) (v := .ref (aMO 62)) (C := RX12) (T := TX12) (N := 71) hx hb hts iw_X12_openAt_X12 hown hK hP 0 rfl rfl 62 (by decide) (hts (.fieldLink RX12 146 "SoldHouseModel" "hIs" "[I") (List.mem_of_getElem? (i := 7) rfl)) (fun _ h9 => h9) rfl dX12_openAt_135 ?_
                      refine lv_iload hx hb dX12_openAt_138 (lv_at hl 2 rfl) ?_
                      refine va_iald hx hb hK hP 8 0 rfl rfl (zB_in bx18f_v12_4 (by decide) (by decide)) dX12_openAt_140 ?_
                      refine lv_topi (fun y140 _ => ?_)
                      refine lv_iconst (v := 1) hx hb dX12_openAt_141 (by decide) ?_
                      have j150 : ∀ (ls : Array Slot) (u150_0 : Int32), zB u150_0 0 1 → zA MO_rooms 0 2 0 8 → zA MO_creaks 0 16 0 9 → lv_has ls 7 [(6, .int u130_0), (5, .int v70_5), (4, .int v12_4), (3, .int v70_3), (0, .ref MO), (1, .int x0), (2, .int x1)] → W p l e ({ frames := 1, cells := 0, slots := 0, locals := 21 } : Room) s m ([.ref MO, .int x0, .int x1] : List Value).toArray below meth c s.heap [] 0 0 Q (F0 m 150 ls [.int u150_0, .int u130_0]) := by
                        intro ls u150_0 bu150_0_k150 sMO_rooms_0_k150 sMO_creaks_0_k150 hl
                        have j162 : ∀ (ls : Array Slot) (v162_3 : Int32), zB v162_3 0 255 → zA MO_rooms 0 2 0 8 → zA MO_creaks 0 16 0 9 → lv_has ls 7 [(6, .int u130_0), (5, .int v70_5), (4, .int v12_4), (3, .int v162_3), (0, .ref MO), (1, .int x0), (2, .int x1)] → W p l e ({ frames := 1, cells := 0, slots := 0, locals := 21 } : Room) s m ([.ref MO, .int x0, .int x1] : List Value).toArray below meth c s.heap [] 0 0 Q (F0 m 162 ls []) := by
                          intro ls v162_3 bv162_3_k162 sMO_rooms_0_k162 sMO_creaks_0_k162 hl
                          obtain ⟨y162, by162, ry162, ey162⟩ := zi_inc (x := v70_5) (k := 1) (a := 1) (b := 8) bx76f_v70_5 (by decide) (by decide) (by decide) (by decide) (by decide)
                          refine lv_iinc (v := y162) (lv' := [(5, .int y162), (6, .int u130_0), (4, .int v12_4), (3, .int v162_3), (0, .ref MO), (1, .int x0), (2, .int x1)]) hx hb dX12_openAt_162 hl (k := 1) rfl ey162 (by decide) rfl (fun ls hl => ?_)
                          refine lv_goto (tgt := 70) hx hb dX12_openAt_165 (by decide) ?_
                          exact ih70 ls y162 v162_3 (zB_w by162 (by decide) (by decide)) bv162_3_k162 sMO_rooms_0_k162 sMO_creaks_0_k162 (zM_us (k := 1) hm70 ry162 (by decide)) (lv_sub hl [0, 2, 3, 4, 5, 6] rfl)
                        refine lv_icmp_eq (tgt := 162) hx hb dX12_openAt_150 (by decide) (fun c150 => ?_) (fun c150 => ?_)
                        · exact j162 ls v70_3 bv70_3_k70 sMO_rooms_0_k150 sMO_creaks_0_k150 (lv_sub hl [0, 1, 2, 3, 4, 5, 6] rfl)
                        · refine lv_iload_n hx hb dX12_openAt_153 rfl (lv_at hl 3 rfl) ?_
                          refine lv_iconst (v := 1) hx hb dX12_openAt_154 (by decide) ?_
                          refine lv_iload hx hb dX12_openAt_155 (lv_at hl 1 rfl) ?_
                          refine lv_ishl hx hb dX12_openAt_157 ?_
                          refine zi_top (a := 1) (b := 128) (zB_shl1 bx76f_v70_5 (by decide) (by decide) (by decide) (by decide)) (fun y157 by157 => ?_)
                          refine lv_iconst (v := (-1)) hx hb dX12_openAt_158 (by decide) ?_
                          refine lv_ixor hx hb dX12_openAt_159 ?_
                          refine zi_top (a := (-129)) (b := (-2)) (zB_not by157 (by decide) (by decide)) (fun y159 by159 => ?_)
                          refine lv_iand hx hb dX12_openAt_160 ?_
                          refine zi_top (a := 0) (b := 255) (zB_andl bv70_3_k70 (by decide)) (fun y160 by160 => ?_)
                          refine lv_istore_n (lv' := [(3, .int y160), (6, .int u130_0), (5, .int v70_5), (4, .int v12_4), (0, .ref MO), (1, .int x0), (2, .int x1)]) hx hb dX12_openAt_161 rfl hl (by decide) rfl (fun ls hl => ?_)
                          exact j162 ls y160 by160 sMO_rooms_0_k150 sMO_creaks_0_k150 (lv_sub hl [1, 2, 3, 0, 4, 5, 6] rfl)
                      refine lv_icmp_ne (tgt := 149) hx hb dX12_openAt_142 (by decide) (fun c142 => ?_) (fun c142 => ?_)
                      · refine lv_iconst (v := 0) hx hb dX12_openAt_149 (by decide) ?_
                        exact j150 ls 0 (zB_w (show zB 0 0 0 from ⟨by decide, by decide⟩) (by decide) (by decide)) sMO_rooms_0_k130 sMO_creaks_0_k130 (lv_sub hl [0, 1, 2, 3, 4, 5, 6] rfl)
                      · have be142f_y140 : zB y140 1 1 := zB_eq c142 (zB_top y140) (show zB 1 1 1 from ⟨by decide, by decide⟩) (by decide) (by decide)
                        refine lv_iconst (v := 1) hx hb dX12_openAt_145 (by decide) ?_
                        refine lv_goto (tgt := 150) hx hb dX12_openAt_146 (by decide) ?_
                        exact j150 ls 1 (zB_w (show zB 1 1 1 from ⟨by decide, by decide⟩) (by decide) (by decide)) sMO_rooms_0_k130 sMO_creaks_0_k130 (lv_sub hl [0, 1, 2, 3, 4, 5, 6] rfl)
                    refine lv_if_lt (tgt := 109) hx hb dX12_openAt_86 (by decide) (fun c86 => ?_) (fun c86 => ?_)
                    · have bx86t_y85 : zB y85 (-2147483648) (-1) := zB_ltu (zl c86) (zB_top y85) (show zB 0 0 0 from ⟨by decide, by decide⟩) (by decide)
                      refine lv_aload_n hx hb dX12_openAt_109 rfl (lv_at hl 3 rfl) ?_
                      refine lv_iload hx hb dX12_openAt_110 (lv_at hl 0 rfl) ?_
                      have hPc := hP.sub (ws' := [(MO, .inr (12, oX12 aMO MO_taped MO_size MO_faultKind MO_faultPlace MO_at MO_end MO_token MO_number MO_name MO_bank MO_rb MO_codes MO_within MO_piled MO_unitsInRule MO_askThing MO_acts MO_undone MO_laid MO_heards MO_time)), ((aMO 16), .inl (cI, 16, .inl MO_creaks))]) [0, 6] rfl
                      refine vp_callSi (va_runV (As := [.int v70_5]) (rest := []) ⟨hx, hb, hml, hown, hts⟩ (c_X12_creakOf l D cI cB cL cZ cG MO v70_5 aMO MO_taped MO_size MO_faultKind MO_faultPlace MO_at MO_end MO_token MO_number MO_name MO_bank MO_rb MO_codes MO_within MO_piled MO_unitsInRule MO_askThing MO_acts MO_undone MO_laid MO_heards MO_time MO_creaks bx76f_v70_5 b_MO_taped b_MO_size b_MO_faultKind b_MO_at b_MO_end b_MO_token b_MO_bank b_MO_rb b_MO_codes b_MO_within b_MO_piled b_MO_unitsInRule b_MO_askThing b_MO_acts b_MO_undone b_MO_laid (zB_w by18f_MO_heards (by decide) (by decide)) b_MO_time sMO_creaks_0_k70) (cwV 1 hts gX12_openAt_X12_creakOf rfl rfl rfl (by decide +kernel) ⟨Nat.le_of_ble_eq_true rfl, Nat.le_of_ble_eq_true rfl⟩) ⟨xr_blind, va_recv hK hP (ci := 12) (q0 := 0) rfl rfl, fun U hU hW => xr_mk hU hW hPc hK⟩ rfl rfl hl.1 rfl (lv_room (Nat.le_of_ble_eq_true rfl)) dX12_openAt_112 ⟨Nat.le_of_ble_eq_true rfl, Nat.le_of_ble_eq_true rfl⟩).run (fun r112 hr112 => ?_)
                      clear hPc
                      refine lv_aload_n hx hb dX12_openAt_115 rfl (lv_at hl 3 rfl) ?_
                      refine va_get (D := D) (ci := 12) (v := .ref (aMO 60)) (C := RX12) (T := TX12) (N := 71) hx hb hts iw_X12_openAt_X12 hown hK hP 0 rfl rfl 60 (by decide) (hts (.fieldLink RX12 140 "SoldHouseModel" "hCreaks" "[I") (List.mem_of_getElem? (i := 6) rfl)) (fun _ h9 => h9) rfl dX12_openAt_116 ?_
                      refine lv_iload hx hb dX12_openAt_119 (lv_at hl 1 rfl) ?_
                      refine va_iald hx hb hK hP 7 0 rfl rfl (zB_in bx18f_v12_4 (by decide) (by decide)) dX12_openAt_121 ?_
                      refine lv_topi (fun y121 _ => ?_)
                      refine lv_icmp_lt (tgt := 129) hx hb dX12_openAt_122 (by decide) (fun c122 => ?_) (fun c122 => ?_)
                      · have by122t_y121 : zB y121 1 2147483647 := zB_ltv (zl c122) hr112 (zB_top y121) (by decide)
                        refine lv_iconst (v := 0) hx hb dX12_openAt_129 (by decide) ?_
                        exact j130 ls 0 (zB_w (show zB 0 0 0 from ⟨by decide, by decide⟩) (by decide) (by decide)) sMO_rooms_0_k70 sMO_creaks_0_k70 (lv_sub hl [0, 1, 2, 3, 4, 5] rfl)
                      · have bx122f_y121 : zB y121 (-2147483648) 9 := zB_leu (zg c122) (zB_top y121) hr112 (by decide)
                        refine lv_iconst (v := 1) hx hb dX12_openAt_125 (by decide) ?_
                        refine lv_goto (tgt := 130) hx hb dX12_openAt_126 (by decide) ?_
                        exact j130 ls 1 (zB_w (show zB 1 1 1 from ⟨by decide, by decide⟩) (by decide) (by decide)) sMO_rooms_0_k70 sMO_creaks_0_k70 (lv_sub hl [0, 1, 2, 3, 4, 5] rfl)
                    · have by86f_y85 : zB y85 0 2147483647 := zB_lev (zg c86) (show zB 0 0 0 from ⟨by decide, by decide⟩) (zB_top y85) (by decide)
                      refine lv_iload hx hb dX12_openAt_89 (lv_at hl 0 rfl) ?_
                      refine lv_aload_n hx hb dX12_openAt_91 rfl (lv_at hl 3 rfl) ?_
                      refine va_get (D := D) (ci := 12) (v := .ref (aMO 61)) (C := RX12) (T := TX12) (N := 71) hx hb hts iw_X12_openAt_X12 hown hK hP 0 rfl rfl 61 (by decide) (hts (.fieldLink RX12 143 "SoldHouseModel" "hRoom" "[I") (List.mem_of_getElem? (i := 5) rfl)) (fun _ h9 => h9) rfl dX12_openAt_92 ?_
                      refine lv_iload hx hb dX12_openAt_95 (lv_at hl 1 rfl) ?_
                      refine va_iald hx hb hK hP 5 0 rfl rfl (zB_in bx18f_v12_4 (by decide) (by decide)) dX12_openAt_97 ?_
                      refine lv_topi (fun y97 _ => ?_)
                      refine lv_icmp_ne (tgt := 105) hx hb dX12_openAt_98 (by decide) (fun c98 => ?_) (fun c98 => ?_)
                      · refine lv_iconst (v := 0) hx hb dX12_openAt_105 (by decide) ?_
                        refine lv_goto (tgt := 130) hx hb dX12_openAt_106 (by decide) ?_
                        exact j130 ls 0 (zB_w (show zB 0 0 0 from ⟨by decide, by decide⟩) (by decide) (by decide)) sMO_rooms_0_k70 sMO_creaks_0_k70 (lv_sub hl [0, 1, 2, 3, 4, 5] rfl)
                      · have be98f_y97 : zB y97 0 7 := zB_eq (Eq.symm c98) (zB_top y97) bx76f_v70_5 (by decide) (by decide)
                        refine lv_iconst (v := 1) hx hb dX12_openAt_101 (by decide) ?_
                        refine lv_goto (tgt := 130) hx hb dX12_openAt_102 (by decide) ?_
                        exact j130 ls 1 (zB_w (show zB 1 1 1 from ⟨by decide, by decide⟩) (by decide) (by decide)) sMO_rooms_0_k70 sMO_creaks_0_k70 (lv_sub hl [0, 1, 2, 3, 4, 5] rfl)
              refine lv_istore (lv' := [(5, .int 0), (4, .int v12_4), (3, .int v12_3), (0, .ref MO), (1, .int x0), (2, .int x1)]) hx hb dX12_openAt_68 hl (by decide) rfl (fun ls hl => ?_)
              exact j70 9 ls 0 v12_3 (zB_w (show zB 0 0 0 from ⟨by decide, by decide⟩) (by decide) (by decide)) bv12_3_k12 sMO_rooms_0_k67 sMO_creaks_0_k67 (zM_ui (show zB 0 0 0 from ⟨by decide, by decide⟩) (by decide)) (lv_sub hl [0, 1, 2, 3, 4, 5] rfl)
            refine lv_if_lt (tgt := 67) hx hb dX12_openAt_50 (by decide) (fun c50 => ?_) (fun c50 => ?_)
            · have bx50t_y49 : zB y49 (-2147483648) (-1) := zB_ltu (zl c50) (zB_top y49) (show zB 0 0 0 from ⟨by decide, by decide⟩) (by decide)
              exact j67 ls sMO_rooms_0_k12 sMO_creaks_0_k12 (lv_sub hl [0, 1, 2, 3, 4] rfl)
            · have by50f_y49 : zB y49 0 2147483647 := zB_lev (zg c50) (show zB 0 0 0 from ⟨by decide, by decide⟩) (zB_top y49) (by decide)
              refine lv_aload_n hx hb dX12_openAt_53 rfl (lv_at hl 2 rfl) ?_
              refine va_get (D := D) (ci := 12) (v := .ref (aMO 64)) (C := RX12) (T := TX12) (N := 71) hx hb hts iw_X12_openAt_X12 hown hK hP 0 rfl rfl 64 (by decide) (hts (.fieldLink RX12 152 "SoldHouseModel" "hUntold" "[I") (List.mem_of_getElem? (i := 4) rfl)) (fun _ h9 => h9) rfl dX12_openAt_54 ?_
              refine lv_iload hx hb dX12_openAt_57 (lv_at hl 0 rfl) ?_
              refine va_iald hx hb hK hP 4 0 rfl rfl (zB_in bx18f_v12_4 (by decide) (by decide)) dX12_openAt_59 ?_
              refine lv_topi (fun y59 _ => ?_)
              refine lv_iload_n hx hb dX12_openAt_60 rfl (lv_at hl 4 rfl) ?_
              refine lv_icmp_gt (tgt := 67) hx hb dX12_openAt_61 (by decide) (fun c61 => ?_) (fun c61 => ?_)
              · have bx61t_x1 : zB x1 (-2147483648) 2147483646 := zB_ltu (zl c61) (zB_top x1) (zB_top y59) (by decide)
                have by61t_y59 : zB y59 (-2147483647) 2147483647 := zB_ltv (zl c61) bx61t_x1 (zB_top y59) (by decide)
                exact j67 ls sMO_rooms_0_k12 sMO_creaks_0_k12 (lv_sub hl [0, 1, 2, 3, 4] rfl)
              · refine lv_goto (tgt := 168) hx hb dX12_openAt_64 (by decide) ?_
                exact j168 ls v12_3 bv12_3_k12 sMO_rooms_0_k12 sMO_creaks_0_k12 (lv_sub hl [0, 1, 2, 3, 4] rfl)
  refine lv_istore (lv' := [(4, .int 0), (3, .int y7), (0, .ref MO), (1, .int x0), (2, .int x1)]) hx hb dX12_openAt_10 hl (by decide) rfl (fun ls hl => ?_)
  exact j12 31 ls 0 y7 (zB_w (show zB 0 0 0 from ⟨by decide, by decide⟩) (by decide) (by decide)) by7 s_MO_rooms_0 s_MO_creaks_0 (zM_ui (show zB 0 0 0 from ⟨by decide, by decide⟩) (by decide)) (lv_sub hl [0, 1, 2, 3, 4] rfl)
set_option maxHeartbeats 4000000 in
set_option maxRecDepth 100000 in
theorem c_X12_stepOn (l : Launch) (D : va_G) (cI : ClassId) (cB : ClassId) (cL : ClassId) (cZ : ClassId) (cG : ClassId) (MO : Nat) (x0 : Int32) (aMO : Nat → Nat) (MO_taped : Int32) (MO_size : Int32) (MO_faultKind : Int32) (MO_faultPlace : Int32) (MO_at : Int32) (MO_end : Int32) (MO_token : Int32) (MO_number : Int32) (MO_name : Int64) (MO_bank : Int32) (MO_rb : Int32) (MO_codes : Int32) (MO_within : Int32) (MO_piled : Int32) (MO_unitsInRule : Int32) (MO_askThing : Int32) (MO_acts : Int32) (MO_undone : Int32) (MO_laid : Int32) (MO_heards : Int32) (MO_time : Int32) (MO_rooms : Nat → Int32) (MO_doors : Nat → Int32) (MO_one : Nat → Int32) (MO_other : Nat → Int32) (MO_waysThen : Nat → Int32) (MO_waysTo : Nat → Int32) (sz : Nat) (b_MO_taped : zB MO_taped 0 1600) (b_MO_size : zB MO_size 0 1600) (b_MO_faultKind : zB MO_faultKind 0 5) (b_MO_at : zB MO_at 0 1600) (b_MO_end : zB MO_end 0 1600) (b_MO_token : zB MO_token 0 5) (b_MO_bank : zB MO_bank 0 1) (b_MO_rb : zB MO_rb 0 1) (b_MO_codes : zB MO_codes 0 1120) (b_MO_within : zB MO_within 0 7) (b_MO_piled : zB MO_piled 0 89) (b_MO_unitsInRule : zB MO_unitsInRule 0 30) (b_MO_askThing : zB MO_askThing 0 5) (b_MO_acts : zB MO_acts 0 40) (b_MO_undone : zB MO_undone 0 40) (b_MO_laid : zB MO_laid 0 8) (b_MO_heards : zB MO_heards 0 30) (b_MO_time : zB MO_time 0 100000) (s_MO_rooms_0 : zA MO_rooms 0 2 0 8) (s_MO_doors_0 : zA MO_doors 0 2 0 12) (s_MO_one_0 : zA MO_one 0 24 0 7) (s_MO_other_0 : zA MO_other 0 24 0 7) : Met l yX12_stepOn wsX12_stepOn ({ frames := 2, cells := 0, slots := 0, locals := 45 }) (xp D [(cI, .int), (cB, .byte), (cL, .long), (cZ, .boolean), (cG, .array .int)] [(MO, .inr (12, oX12 aMO MO_taped MO_size MO_faultKind MO_faultPlace MO_at MO_end MO_token MO_number MO_name MO_bank MO_rb MO_codes MO_within MO_piled MO_unitsInRule MO_askThing MO_acts MO_undone MO_laid MO_heards MO_time)), ((aMO 11), .inl (cI, 2, .inl MO_rooms)), ((aMO 12), .inl (cI, 2, .inl MO_doors)), ((aMO 17), .inl (cI, 24, .inl MO_one)), ((aMO 18), .inl (cI, 24, .inl MO_other)), ((aMO 53), .inl (cI, 8, .inl MO_waysThen)), ((aMO 52), .inl (cI, 8, .inl MO_waysTo))] sz [] [.ref MO, .int x0]) (va_Qv (fun _ : Unit => True) (fun (_ : Unit) (t : State) => ∃ (nMOwaysThen : Nat → Int32), ∃ (nMOwaysTo : Nat → Int32), xB D (va_A [(MO, .inr (12, oX12 aMO MO_taped MO_size MO_faultKind MO_faultPlace MO_at MO_end MO_token MO_number MO_name MO_bank MO_rb MO_codes MO_within MO_piled MO_unitsInRule MO_askThing MO_acts MO_undone MO_laid MO_heards MO_time)), ((aMO 11), .inl (cI, 2, .inl MO_rooms)), ((aMO 12), .inl (cI, 2, .inl MO_doors)), ((aMO 17), .inl (cI, 24, .inl MO_one)), ((aMO 18), .inl (cI, 24, .inl MO_other)), ((aMO 53), .inl (cI, 8, .inl MO_waysThen)), ((aMO 52), .inl (cI, 8, .inl MO_waysTo))] sz) [(MO, .inr (12, oX12 aMO MO_taped MO_size MO_faultKind MO_faultPlace MO_at MO_end MO_token MO_number MO_name MO_bank MO_rb MO_codes MO_within MO_piled MO_unitsInRule MO_askThing MO_acts MO_undone MO_laid MO_heards MO_time)), ((aMO 11), .inl (cI, 2, .inl MO_rooms)), ((aMO 12), .inl (cI, 2, .inl MO_doors)), ((aMO 17), .inl (cI, 24, .inl MO_one)), ((aMO 18), .inl (cI, 24, .inl MO_other)), ((aMO 53), .inl (cI, 8, .inl nMOwaysThen)), ((aMO 52), .inl (cI, 8, .inl nMOwaysTo))] t) (va_A [(MO, .inr (12, oX12 aMO MO_taped MO_size MO_faultKind MO_faultPlace MO_at MO_end MO_token MO_number MO_name MO_bank MO_rb MO_codes MO_within MO_piled MO_unitsInRule MO_askThing MO_acts MO_undone MO_laid MO_heards MO_time)), ((aMO 11), .inl (cI, 2, .inl MO_rooms)), ((aMO 12), .inl (cI, 2, .inl MO_doors)), ((aMO 17), .inl (cI, 24, .inl MO_one)), ((aMO 18), .inl (cI, 24, .inl MO_other)), ((aMO 53), .inl (cI, 8, .inl MO_waysThen)), ((aMO 52), .inl (cI, 8, .inl MO_waysTo))] sz)) 0 0 (va_A [(MO, .inr (12, oX12 aMO MO_taped MO_size MO_faultKind MO_faultPlace MO_at MO_end MO_token MO_number MO_name MO_bank MO_rb MO_codes MO_within MO_piled MO_unitsInRule MO_askThing MO_acts MO_undone MO_laid MO_heards MO_time)), ((aMO 11), .inl (cI, 2, .inl MO_rooms)), ((aMO 12), .inl (cI, 2, .inl MO_doors)), ((aMO 17), .inl (cI, 24, .inl MO_one)), ((aMO 18), .inl (cI, 24, .inl MO_other)), ((aMO 53), .inl (cI, 8, .inl MO_waysThen)), ((aMO 52), .inl (cI, 8, .inl MO_waysTo))] sz) := by
  refine Met.ofW (cc := cX12_stepOn) (maxL := 5) (ret := none) (by decide) rfl ?_
  intro p e s m args below meth c s₁ B hml hv
  obtain ⟨rfl, hsz, hP, hK, hD0, hNw⟩ := hv
  have hx := B.exec
  have hb := B.bytes
  have hr := B.returns
  have hts := atoms_spec (ws := wsX12_stepOn) B.pre
  have hown : s.vm.findClass RX12 = some m.cls := findClass_of_methodNamed B.named
  have hlocks := B.notSynchronized
  clear B
  subst hsz
  have hD := hD0.self (sz := s.heap.size)
  clear hD0 hNw
  generalize hAe : va_A [(MO, .inr (12, oX12 aMO MO_taped MO_size MO_faultKind MO_faultPlace MO_at MO_end MO_token MO_number MO_name MO_bank MO_rb MO_codes MO_within MO_piled MO_unitsInRule MO_askThing MO_acts MO_undone MO_laid MO_heards MO_time)), ((aMO 11), .inl (cI, 2, .inl MO_rooms)), ((aMO 12), .inl (cI, 2, .inl MO_doors)), ((aMO 17), .inl (cI, 24, .inl MO_one)), ((aMO 18), .inl (cI, 24, .inl MO_other)), ((aMO 53), .inl (cI, 8, .inl MO_waysThen)), ((aMO 52), .inl (cI, 8, .inl MO_waysTo))] s.heap.size = A at hD ⊢
  have hA : ∀ q : Nat, s.heap.size ≤ q → A q := fun q h => by rw [← hAe]; exact Or.inr h
  have hS : va_S A s.heap s.heap [] := va_S.rf
  clear hAe
  obtain ⟨H, hH⟩ : ∃ H : Heap, H = s.heap := ⟨_, rfl⟩
  obtain ⟨locs, hlocs⟩ : ∃ L : List Loc, L = [] := ⟨_, rfl⟩
  replace hP : va_P D classes [(MO, .inr (12, oX12 aMO MO_taped MO_size MO_faultKind MO_faultPlace MO_at MO_end MO_token MO_number MO_name MO_bank MO_rb MO_codes MO_within MO_piled MO_unitsInRule MO_askThing MO_acts MO_undone MO_laid MO_heards MO_time)), ((aMO 11), .inl (cI, 2, .inl MO_rooms)), ((aMO 12), .inl (cI, 2, .inl MO_doors)), ((aMO 17), .inl (cI, 24, .inl MO_one)), ((aMO 18), .inl (cI, 24, .inl MO_other)), ((aMO 53), .inl (cI, 8, .inl MO_waysThen)), ((aMO 52), .inl (cI, 8, .inl MO_waysTo))] H := by rw [hH]; exact hP
  replace hS : va_S A s.heap H locs := by rw [hH, hlocs]; exact hS
  rw [← hH, ← hlocs]
  clear hlocs hH
  have hl := lv_entry ([.ref MO, .int x0]) (n := 5) (Nat.le_of_ble_eq_true rfl)
  rw [lg_entry_eq]
  generalize (lg_sl ([.ref MO, .int x0]) ++ List.replicate (5 - (lg_sl ([.ref MO, .int x0])).length) Slot.unset).toArray = ls at hl ⊢
  replace hl : lv_has ls 5 [(0, .ref MO), (1, .int x0)] := hl
  refine zz_abs (R := ({ frames := 2, cells := 0, slots := 0, locals := 45 } : Room)) (fun Q up => ?_)
  refine lv_iconst (v := 0) hx hb dX12_stepOn_0 (by decide) ?_
  have j2 : ∀ (n2 : Nat) (H : Heap) (locs : List Loc) (ls : Array Slot) (v2_2 : Int32) (g2_aMO53 : Nat → Int32), zB v2_2 0 8 → zA MO_rooms 0 2 0 8 → zA MO_doors 0 2 0 12 → zA MO_one 0 24 0 7 → zA MO_other 0 24 0 7 → (8 + 1 - v2_2.toInt) ≤ (n2 : Int) → va_P D classes [(MO, .inr (12, oX12 aMO MO_taped MO_size MO_faultKind MO_faultPlace MO_at MO_end MO_token MO_number MO_name MO_bank MO_rb MO_codes MO_within MO_piled MO_unitsInRule MO_askThing MO_acts MO_undone MO_laid MO_heards MO_time)), ((aMO 11), .inl (cI, 2, .inl MO_rooms)), ((aMO 12), .inl (cI, 2, .inl MO_doors)), ((aMO 17), .inl (cI, 24, .inl MO_one)), ((aMO 18), .inl (cI, 24, .inl MO_other)), ((aMO 53), .inl (cI, 8, .inl g2_aMO53)), ((aMO 52), .inl (cI, 8, .inl MO_waysTo))] H → va_D A [(MO, .inr (12, oX12 aMO MO_taped MO_size MO_faultKind MO_faultPlace MO_at MO_end MO_token MO_number MO_name MO_bank MO_rb MO_codes MO_within MO_piled MO_unitsInRule MO_askThing MO_acts MO_undone MO_laid MO_heards MO_time)), ((aMO 11), .inl (cI, 2, .inl MO_rooms)), ((aMO 12), .inl (cI, 2, .inl MO_doors)), ((aMO 17), .inl (cI, 24, .inl MO_one)), ((aMO 18), .inl (cI, 24, .inl MO_other)), ((aMO 53), .inl (cI, 8, .inl g2_aMO53)), ((aMO 52), .inl (cI, 8, .inl MO_waysTo))] → va_S A s.heap H locs → lv_has ls 5 [(2, .int v2_2), (0, .ref MO), (1, .int x0)] → W p l e ({ frames := 2, cells := 0, slots := 0, locals := 45 } : Room) s m ([.ref MO, .int x0] : List Value).toArray below meth c H locs 0 0 Q (F0 m 2 ls []) := by
    intro n2
    induction n2 with
    | zero => intro H locs ls v2_2 g2_aMO53 bv2_2_k2 sMO_rooms_0_k2 sMO_doors_0_k2 sMO_one_0_k2 sMO_other_0_k2 hm2 hP hD hS hl; exact zM_u0 bv2_2_k2 hm2
    | succ n2 ih2 =>
      intro H locs ls v2_2 g2_aMO53 bv2_2_k2 sMO_rooms_0_k2 sMO_doors_0_k2 sMO_one_0_k2 sMO_other_0_k2 hm2 hP hD hS hl
      refine lv_iload_n hx hb dX12_stepOn_2 rfl (lv_at hl 0 rfl) ?_
      refine lv_aload_n hx hb dX12_stepOn_3 rfl (lv_at hl 1 rfl) ?_
      have hPc := hP.sub (ws' := [(MO, .inr (12, oX12 aMO MO_taped MO_size MO_faultKind MO_faultPlace MO_at MO_end MO_token MO_number MO_name MO_bank MO_rb MO_codes MO_within MO_piled MO_unitsInRule MO_askThing MO_acts MO_undone MO_laid MO_heards MO_time)), ((aMO 11), .inl (cI, 2, .inl MO_rooms))]) [0, 1] rfl
      refine vp_callSi (va_runV (As := []) (rest := [.int v2_2]) ⟨hx, hb, hml, hown, hts⟩ (c_X12_places l D cI cB cL cZ cG MO aMO MO_taped MO_size MO_faultKind MO_faultPlace MO_at MO_end MO_token MO_number MO_name MO_bank MO_rb MO_codes MO_within MO_piled MO_unitsInRule MO_askThing MO_acts MO_undone MO_laid MO_heards MO_time MO_rooms b_MO_taped b_MO_size b_MO_faultKind b_MO_at b_MO_end b_MO_token b_MO_bank b_MO_rb b_MO_codes b_MO_within b_MO_piled b_MO_unitsInRule b_MO_askThing b_MO_acts b_MO_undone b_MO_laid b_MO_heards b_MO_time sMO_rooms_0_k2) (cwV 0 hts gX12_stepOn_X12_places rfl rfl rfl (by decide +kernel) ⟨Nat.le_of_ble_eq_true rfl, Nat.le_of_ble_eq_true rfl⟩) ⟨xr_blind, va_recv hK hP (ci := 12) (q0 := 0) rfl rfl, fun U hU hW => xr_mk hU hW hPc hK⟩ rfl rfl hl.1 rfl (lv_room (Nat.le_of_ble_eq_true rfl)) dX12_stepOn_4 ⟨Nat.le_of_ble_eq_true rfl, Nat.le_of_ble_eq_true rfl⟩).run (fun r4 hr4 => ?_)
      obtain ⟨hr4, p4_v, p4_i⟩ := hr4
      clear hPc
      refine lv_icmp_ge (tgt := 85) hx hb dX12_stepOn_7 (by decide) (fun c7 => ?_) (fun c7 => ?_)
      · refine lv_iconst (v := 0) hx hb dX12_stepOn_85 (by decide) ?_
        have j87 : ∀ (n87 : Nat) (H : Heap) (locs : List Loc) (ls : Array Slot) (v87_2 : Int32) (g87_aMO52 : Nat → Int32), zB v87_2 0 8 → zA MO_rooms 0 2 0 8 → zA MO_doors 0 2 0 12 → zA MO_one 0 24 0 7 → zA MO_other 0 24 0 7 → (8 + 1 - v87_2.toInt) ≤ (n87 : Int) → va_P D classes [(MO, .inr (12, oX12 aMO MO_taped MO_size MO_faultKind MO_faultPlace MO_at MO_end MO_token MO_number MO_name MO_bank MO_rb MO_codes MO_within MO_piled MO_unitsInRule MO_askThing MO_acts MO_undone MO_laid MO_heards MO_time)), ((aMO 11), .inl (cI, 2, .inl MO_rooms)), ((aMO 12), .inl (cI, 2, .inl MO_doors)), ((aMO 17), .inl (cI, 24, .inl MO_one)), ((aMO 18), .inl (cI, 24, .inl MO_other)), ((aMO 53), .inl (cI, 8, .inl g2_aMO53)), ((aMO 52), .inl (cI, 8, .inl g87_aMO52))] H → va_D A [(MO, .inr (12, oX12 aMO MO_taped MO_size MO_faultKind MO_faultPlace MO_at MO_end MO_token MO_number MO_name MO_bank MO_rb MO_codes MO_within MO_piled MO_unitsInRule MO_askThing MO_acts MO_undone MO_laid MO_heards MO_time)), ((aMO 11), .inl (cI, 2, .inl MO_rooms)), ((aMO 12), .inl (cI, 2, .inl MO_doors)), ((aMO 17), .inl (cI, 24, .inl MO_one)), ((aMO 18), .inl (cI, 24, .inl MO_other)), ((aMO 53), .inl (cI, 8, .inl g2_aMO53)), ((aMO 52), .inl (cI, 8, .inl g87_aMO52))] → va_S A s.heap H locs → lv_has ls 5 [(2, .int v87_2), (0, .ref MO), (1, .int x0)] → W p l e ({ frames := 2, cells := 0, slots := 0, locals := 45 } : Room) s m ([.ref MO, .int x0] : List Value).toArray below meth c H locs 0 0 Q (F0 m 87 ls []) := by
          intro n87
          induction n87 with
          | zero => intro H locs ls v87_2 g87_aMO52 bv87_2_k87 sMO_rooms_0_k87 sMO_doors_0_k87 sMO_one_0_k87 sMO_other_0_k87 hm87 hP hD hS hl; exact zM_u0 bv87_2_k87 hm87
          | succ n87 ih87 =>
            intro H locs ls v87_2 g87_aMO52 bv87_2_k87 sMO_rooms_0_k87 sMO_doors_0_k87 sMO_one_0_k87 sMO_other_0_k87 hm87 hP hD hS hl
            refine lv_iload_n hx hb dX12_stepOn_87 rfl (lv_at hl 0 rfl) ?_
            refine lv_aload_n hx hb dX12_stepOn_88 rfl (lv_at hl 1 rfl) ?_
            have hPc := hP.sub (ws' := [(MO, .inr (12, oX12 aMO MO_taped MO_size MO_faultKind MO_faultPlace MO_at MO_end MO_token MO_number MO_name MO_bank MO_rb MO_codes MO_within MO_piled MO_unitsInRule MO_askThing MO_acts MO_undone MO_laid MO_heards MO_time)), ((aMO 11), .inl (cI, 2, .inl MO_rooms))]) [0, 1] rfl
            refine vp_callSi (va_runV (As := []) (rest := [.int v87_2]) ⟨hx, hb, hml, hown, hts⟩ (c_X12_places l D cI cB cL cZ cG MO aMO MO_taped MO_size MO_faultKind MO_faultPlace MO_at MO_end MO_token MO_number MO_name MO_bank MO_rb MO_codes MO_within MO_piled MO_unitsInRule MO_askThing MO_acts MO_undone MO_laid MO_heards MO_time MO_rooms b_MO_taped b_MO_size b_MO_faultKind b_MO_at b_MO_end b_MO_token b_MO_bank b_MO_rb b_MO_codes b_MO_within b_MO_piled b_MO_unitsInRule b_MO_askThing b_MO_acts b_MO_undone b_MO_laid b_MO_heards b_MO_time sMO_rooms_0_k87) (cwV 0 hts gX12_stepOn_X12_places rfl rfl rfl (by decide +kernel) ⟨Nat.le_of_ble_eq_true rfl, Nat.le_of_ble_eq_true rfl⟩) ⟨xr_blind, va_recv hK hP (ci := 12) (q0 := 0) rfl rfl, fun U hU hW => xr_mk hU hW hPc hK⟩ rfl rfl hl.1 rfl (lv_room (Nat.le_of_ble_eq_true rfl)) dX12_stepOn_89 ⟨Nat.le_of_ble_eq_true rfl, Nat.le_of_ble_eq_true rfl⟩).run (fun r89 hr89 => ?_)
            obtain ⟨hr89, p89_v, p89_i⟩ := hr89
            clear hPc
            refine lv_icmp_ge (tgt := 113) hx hb dX12_stepOn_92 (by decide) (fun c92 => ?_) (fun c92 => ?_)
            · exact up _ _ _ (W.vret hx hb hr (fun t ht hW => ⟨⟨(), rfl, trivial, ⟨g2_aMO53, g87_aMO52, by rw [ht]; exact hP, hD⟩⟩, hS.F ht⟩) hS.2.2 dX12_stepOn_113)
            · have bx92f_v87_2 : zB v87_2 0 7 := zB_ltu (zf c92) bv87_2_k87 hr89 (by decide)
              have by92f_r89 : zB r89 1 8 := zB_ltv (zf c92) bx92f_v87_2 hr89 (by decide)
              refine lv_aload_n hx hb dX12_stepOn_95 rfl (lv_at hl 1 rfl) ?_
              refine va_get (D := D) (ci := 12) (v := .ref (aMO 52)) (C := RX12) (T := TX12) (N := 71) hx hb hts iw_X12_stepOn_X12 hown hK hP 0 rfl rfl 52 (by decide) (hts (.fieldLink RX12 116 "SoldHouseModel" "waysTo" "[I") (List.mem_of_getElem? (i := 2) rfl)) (fun _ h9 => h9) rfl dX12_stepOn_96 ?_
              refine lv_iload_n hx hb dX12_stepOn_99 rfl (lv_at hl 0 rfl) ?_
              refine lv_aload_n hx hb dX12_stepOn_100 rfl (lv_at hl 1 rfl) ?_
              refine va_get (D := D) (ci := 12) (v := .ref (aMO 53)) (C := RX12) (T := TX12) (N := 71) hx hb hts iw_X12_stepOn_X12 hown hK hP 0 rfl rfl 53 (by decide) (hts (.fieldLink RX12 119 "SoldHouseModel" "waysThen" "[I") (List.mem_of_getElem? (i := 1) rfl)) (fun _ h9 => h9) rfl dX12_stepOn_101 ?_
              refine lv_iload_n hx hb dX12_stepOn_104 rfl (lv_at hl 0 rfl) ?_
              refine va_iald hx hb hK hP 5 0 rfl rfl (zB_in bx92f_v87_2 (by decide) (by decide)) dX12_stepOn_105 ?_
              refine lv_topi (fun y105 _ => ?_)
              refine zi_iast hx hb hK hP hD hS 6 0 rfl rfl (zB_in bx92f_v87_2 (by decide) (by decide)) dX12_stepOn_106 (fun H locs g106 eg106 hP hD hS => ?_)
              replace hP : va_P D classes [(MO, .inr (12, oX12 aMO MO_taped MO_size MO_faultKind MO_faultPlace MO_at MO_end MO_token MO_number MO_name MO_bank MO_rb MO_codes MO_within MO_piled MO_unitsInRule MO_askThing MO_acts MO_undone MO_laid MO_heards MO_time)), ((aMO 11), .inl (cI, 2, .inl MO_rooms)), ((aMO 12), .inl (cI, 2, .inl MO_doors)), ((aMO 17), .inl (cI, 24, .inl MO_one)), ((aMO 18), .inl (cI, 24, .inl MO_other)), ((aMO 53), .inl (cI, 8, .inl g2_aMO53)), ((aMO 52), .inl (cI, 8, .inl g106))] H := hP
              replace hD : va_D A [(MO, .inr (12, oX12 aMO MO_taped MO_size MO_faultKind MO_faultPlace MO_at MO_end MO_token MO_number MO_name MO_bank MO_rb MO_codes MO_within MO_piled MO_unitsInRule MO_askThing MO_acts MO_undone MO_laid MO_heards MO_time)), ((aMO 11), .inl (cI, 2, .inl MO_rooms)), ((aMO 12), .inl (cI, 2, .inl MO_doors)), ((aMO 17), .inl (cI, 24, .inl MO_one)), ((aMO 18), .inl (cI, 24, .inl MO_other)), ((aMO 53), .inl (cI, 8, .inl g2_aMO53)), ((aMO 52), .inl (cI, 8, .inl g106))] := hD
              clear eg106
              obtain ⟨y107, by107, ry107, ey107⟩ := zi_inc (x := v87_2) (k := 1) (a := 1) (b := 8) bx92f_v87_2 (by decide) (by decide) (by decide) (by decide) (by decide)
              refine lv_iinc (v := y107) (lv' := [(2, .int y107), (0, .ref MO), (1, .int x0)]) hx hb dX12_stepOn_107 hl (k := 0) rfl ey107 (by decide) rfl (fun ls hl => ?_)
              refine lv_goto (tgt := 87) hx hb dX12_stepOn_110 (by decide) ?_
              exact ih87 H locs ls y107 g106 (zB_w by107 (by decide) (by decide)) sMO_rooms_0_k87 sMO_doors_0_k87 sMO_one_0_k87 sMO_other_0_k87 (zM_us (k := 1) hm87 ry107 (by decide)) hP hD hS (lv_sub hl [0, 1, 2] rfl)
        refine lv_istore_n (lv' := [(2, .int 0), (0, .ref MO), (1, .int x0)]) hx hb dX12_stepOn_86 rfl hl (by decide) rfl (fun ls hl => ?_)
        exact j87 9 H locs ls 0 MO_waysTo (zB_w (show zB 0 0 0 from ⟨by decide, by decide⟩) (by decide) (by decide)) sMO_rooms_0_k2 sMO_doors_0_k2 sMO_one_0_k2 sMO_other_0_k2 (zM_ui (show zB 0 0 0 from ⟨by decide, by decide⟩) (by decide)) hP hD hS (lv_sub hl [0, 1, 2] rfl)
      · have bx7f_v2_2 : zB v2_2 0 7 := zB_ltu (zf c7) bv2_2_k2 hr4 (by decide)
        have by7f_r4 : zB r4 1 8 := zB_ltv (zf c7) bx7f_v2_2 hr4 (by decide)
        refine lv_aload_n hx hb dX12_stepOn_10 rfl (lv_at hl 1 rfl) ?_
        refine lv_iload_n hx hb dX12_stepOn_11 rfl (lv_at hl 0 rfl) ?_
        refine lv_iconst (v := (-1)) hx hb dX12_stepOn_12 (by decide) ?_
        have hPc := hP.sub (ws' := [(MO, .inr (12, oX12 aMO MO_taped MO_size MO_faultKind MO_faultPlace MO_at MO_end MO_token MO_number MO_name MO_bank MO_rb MO_codes MO_within MO_piled MO_unitsInRule MO_askThing MO_acts MO_undone MO_laid MO_heards MO_time)), ((aMO 12), .inl (cI, 2, .inl MO_doors)), ((aMO 17), .inl (cI, 24, .inl MO_one)), ((aMO 18), .inl (cI, 24, .inl MO_other))]) [0, 2, 3, 4] rfl
        refine vp_callSi (va_runV (As := [.int v2_2, .int (-1)]) (rest := []) ⟨hx, hb, hml, hown, hts⟩ (c_X12_behind l D cI cB cL cZ cG MO v2_2 (-1) aMO MO_taped MO_size MO_faultKind MO_faultPlace MO_at MO_end MO_token MO_number MO_name MO_bank MO_rb MO_codes MO_within MO_piled MO_unitsInRule MO_askThing MO_acts MO_undone MO_laid MO_heards MO_time MO_doors MO_one MO_other b_MO_taped b_MO_size b_MO_faultKind b_MO_at b_MO_end b_MO_token b_MO_bank b_MO_rb b_MO_codes b_MO_within b_MO_piled b_MO_unitsInRule b_MO_askThing b_MO_acts b_MO_undone b_MO_laid b_MO_heards b_MO_time sMO_doors_0_k2 sMO_one_0_k2 sMO_other_0_k2) (cwV 2 hts gX12_stepOn_X12_behind rfl rfl rfl (by decide +kernel) ⟨Nat.le_of_ble_eq_true rfl, Nat.le_of_ble_eq_true rfl⟩) ⟨xr_blind, va_recv hK hP (ci := 12) (q0 := 0) rfl rfl, fun U hU hW => xr_mk hU hW hPc hK⟩ rfl rfl hl.1 rfl (lv_room (Nat.le_of_ble_eq_true rfl)) dX12_stepOn_13 ⟨Nat.le_of_ble_eq_true rfl, Nat.le_of_ble_eq_true rfl⟩).run (fun r13 hr13 => ?_)
        obtain ⟨hr13, p13_b, p13_u⟩ := hr13
        clear hPc
        refine lv_iconst (v := 1) hx hb dX12_stepOn_16 (by decide) ?_
        refine lv_iload_n hx hb dX12_stepOn_17 rfl (lv_at hl 0 rfl) ?_
        refine lv_ishl hx hb dX12_stepOn_18 ?_
        refine zi_top (a := 1) (b := 128) (zB_shl1 bx7f_v2_2 (by decide) (by decide) (by decide) (by decide)) (fun y18 by18 => ?_)
        refine lv_ior hx hb dX12_stepOn_19 ?_
        refine zi_top (a := 1) (b := 255) (zB_or 8 hr13 by18 (by decide) (by decide) (by decide) (by decide) (by decide) (by decide) (by decide)) (fun y19 by19 => ?_)
        refine lv_istore_n (lv' := [(3, .int y19), (2, .int v2_2), (0, .ref MO), (1, .int x0)]) hx hb dX12_stepOn_20 rfl hl (by decide) rfl (fun ls hl => ?_)
        refine lv_aload_n hx hb dX12_stepOn_21 rfl (lv_at hl 2 rfl) ?_
        refine va_get (D := D) (ci := 12) (v := .ref (aMO 53)) (C := RX12) (T := TX12) (N := 71) hx hb hts iw_X12_stepOn_X12 hown hK hP 0 rfl rfl 53 (by decide) (hts (.fieldLink RX12 119 "SoldHouseModel" "waysThen" "[I") (List.mem_of_getElem? (i := 1) rfl)) (fun _ h9 => h9) rfl dX12_stepOn_22 ?_
        refine lv_iload_n hx hb dX12_stepOn_25 rfl (lv_at hl 1 rfl) ?_
        refine lv_iconst (v := 0) hx hb dX12_stepOn_26 (by decide) ?_
        refine zi_iast hx hb hK hP hD hS 5 0 rfl rfl (zB_in bx7f_v2_2 (by decide) (by decide)) dX12_stepOn_27 (fun H locs g27 eg27 hP hD hS => ?_)
        replace hP : va_P D classes [(MO, .inr (12, oX12 aMO MO_taped MO_size MO_faultKind MO_faultPlace MO_at MO_end MO_token MO_number MO_name MO_bank MO_rb MO_codes MO_within MO_piled MO_unitsInRule MO_askThing MO_acts MO_undone MO_laid MO_heards MO_time)), ((aMO 11), .inl (cI, 2, .inl MO_rooms)), ((aMO 12), .inl (cI, 2, .inl MO_doors)), ((aMO 17), .inl (cI, 24, .inl MO_one)), ((aMO 18), .inl (cI, 24, .inl MO_other)), ((aMO 53), .inl (cI, 8, .inl g27)), ((aMO 52), .inl (cI, 8, .inl MO_waysTo))] H := hP
        replace hD : va_D A [(MO, .inr (12, oX12 aMO MO_taped MO_size MO_faultKind MO_faultPlace MO_at MO_end MO_token MO_number MO_name MO_bank MO_rb MO_codes MO_within MO_piled MO_unitsInRule MO_askThing MO_acts MO_undone MO_laid MO_heards MO_time)), ((aMO 11), .inl (cI, 2, .inl MO_rooms)), ((aMO 12), .inl (cI, 2, .inl MO_doors)), ((aMO 17), .inl (cI, 24, .inl MO_one)), ((aMO 18), .inl (cI, 24, .inl MO_other)), ((aMO 53), .inl (cI, 8, .inl g27)), ((aMO 52), .inl (cI, 8, .inl MO_waysTo))] := hD
        clear eg27
        refine lv_iconst (v := 0) hx hb dX12_stepOn_28 (by decide) ?_
        have j31 : ∀ (n31 : Nat) (H : Heap) (locs : List Loc) (ls : Array Slot) (v31_4 : Int32) (g31_aMO53 : Nat → Int32), zB v31_4 0 8 → zA MO_rooms 0 2 0 8 → zA MO_doors 0 2 0 12 → zA MO_one 0 24 0 7 → zA MO_other 0 24 0 7 → (8 + 1 - v31_4.toInt) ≤ (n31 : Int) → va_P D classes [(MO, .inr (12, oX12 aMO MO_taped MO_size MO_faultKind MO_faultPlace MO_at MO_end MO_token MO_number MO_name MO_bank MO_rb MO_codes MO_within MO_piled MO_unitsInRule MO_askThing MO_acts MO_undone MO_laid MO_heards MO_time)), ((aMO 11), .inl (cI, 2, .inl MO_rooms)), ((aMO 12), .inl (cI, 2, .inl MO_doors)), ((aMO 17), .inl (cI, 24, .inl MO_one)), ((aMO 18), .inl (cI, 24, .inl MO_other)), ((aMO 53), .inl (cI, 8, .inl g31_aMO53)), ((aMO 52), .inl (cI, 8, .inl MO_waysTo))] H → va_D A [(MO, .inr (12, oX12 aMO MO_taped MO_size MO_faultKind MO_faultPlace MO_at MO_end MO_token MO_number MO_name MO_bank MO_rb MO_codes MO_within MO_piled MO_unitsInRule MO_askThing MO_acts MO_undone MO_laid MO_heards MO_time)), ((aMO 11), .inl (cI, 2, .inl MO_rooms)), ((aMO 12), .inl (cI, 2, .inl MO_doors)), ((aMO 17), .inl (cI, 24, .inl MO_one)), ((aMO 18), .inl (cI, 24, .inl MO_other)), ((aMO 53), .inl (cI, 8, .inl g31_aMO53)), ((aMO 52), .inl (cI, 8, .inl MO_waysTo))] → va_S A s.heap H locs → lv_has ls 5 [(4, .int v31_4), (3, .int y19), (2, .int v2_2), (0, .ref MO), (1, .int x0)] → W p l e ({ frames := 2, cells := 0, slots := 0, locals := 45 } : Room) s m ([.ref MO, .int x0] : List Value).toArray below meth c H locs 0 0 Q (F0 m 31 ls []) := by
          intro n31
          induction n31 with
          | zero => intro H locs ls v31_4 g31_aMO53 bv31_4_k31 sMO_rooms_0_k31 sMO_doors_0_k31 sMO_one_0_k31 sMO_other_0_k31 hm31 hP hD hS hl; exact zM_u0 bv31_4_k31 hm31
          | succ n31 ih31 =>
            intro H locs ls v31_4 g31_aMO53 bv31_4_k31 sMO_rooms_0_k31 sMO_doors_0_k31 sMO_one_0_k31 sMO_other_0_k31 hm31 hP hD hS hl
            refine lv_iload hx hb dX12_stepOn_31 (lv_at hl 0 rfl) ?_
            refine lv_aload_n hx hb dX12_stepOn_33 rfl (lv_at hl 3 rfl) ?_
            have hPc := hP.sub (ws' := [(MO, .inr (12, oX12 aMO MO_taped MO_size MO_faultKind MO_faultPlace MO_at MO_end MO_token MO_number MO_name MO_bank MO_rb MO_codes MO_within MO_piled MO_unitsInRule MO_askThing MO_acts MO_undone MO_laid MO_heards MO_time)), ((aMO 11), .inl (cI, 2, .inl MO_rooms))]) [0, 1] rfl
            refine vp_callSi (va_runV (As := []) (rest := [.int v31_4]) ⟨hx, hb, hml, hown, hts⟩ (c_X12_places l D cI cB cL cZ cG MO aMO MO_taped MO_size MO_faultKind MO_faultPlace MO_at MO_end MO_token MO_number MO_name MO_bank MO_rb MO_codes MO_within MO_piled MO_unitsInRule MO_askThing MO_acts MO_undone MO_laid MO_heards MO_time MO_rooms b_MO_taped b_MO_size b_MO_faultKind b_MO_at b_MO_end b_MO_token b_MO_bank b_MO_rb b_MO_codes b_MO_within b_MO_piled b_MO_unitsInRule b_MO_askThing b_MO_acts b_MO_undone b_MO_laid b_MO_heards b_MO_time sMO_rooms_0_k31) (cwV 0 hts gX12_stepOn_X12_places rfl rfl rfl (by decide +kernel) ⟨Nat.le_of_ble_eq_true rfl, Nat.le_of_ble_eq_true rfl⟩) ⟨xr_blind, va_recv hK hP (ci := 12) (q0 := 0) rfl rfl, fun U hU hW => xr_mk hU hW hPc hK⟩ rfl rfl hl.1 rfl (lv_room (Nat.le_of_ble_eq_true rfl)) dX12_stepOn_34 ⟨Nat.le_of_ble_eq_true rfl, Nat.le_of_ble_eq_true rfl⟩).run (fun r34 hr34 => ?_)
            obtain ⟨hr34, p34_v, p34_i⟩ := hr34
            clear hPc
            refine lv_icmp_ge (tgt := 79) hx hb dX12_stepOn_37 (by decide) (fun c37 => ?_) (fun c37 => ?_)
            · obtain ⟨y79, by79, ry79, ey79⟩ := zi_inc (x := v2_2) (k := 1) (a := 1) (b := 8) bx7f_v2_2 (by decide) (by decide) (by decide) (by decide) (by decide)
              refine lv_iinc (v := y79) (lv' := [(2, .int y79), (4, .int v31_4), (3, .int y19), (0, .ref MO), (1, .int x0)]) hx hb dX12_stepOn_79 hl (k := 2) rfl ey79 (by decide) rfl (fun ls hl => ?_)
              refine lv_goto (tgt := 2) hx hb dX12_stepOn_82 (by decide) ?_
              exact ih2 H locs ls y79 g31_aMO53 (zB_w by79 (by decide) (by decide)) sMO_rooms_0_k31 sMO_doors_0_k31 sMO_one_0_k31 sMO_other_0_k31 (zM_us (k := 1) hm2 ry79 (by decide)) hP hD hS (lv_sub hl [0, 3, 4] rfl)
            · have bx37f_v31_4 : zB v31_4 0 7 := zB_ltu (zf c37) bv31_4_k31 hr34 (by decide)
              have by37f_r34 : zB r34 1 8 := zB_ltv (zf c37) bx37f_v31_4 hr34 (by decide)
              refine lv_iload_n hx hb dX12_stepOn_40 rfl (lv_at hl 1 rfl) ?_
              refine lv_iload hx hb dX12_stepOn_41 (lv_at hl 0 rfl) ?_
              have hPc := hP.sub (ws' := []) [] rfl
              refine vp_callSi (va_runS (As := [.int y19, .int v31_4]) (rest := []) ⟨hx, hb, hml, hown, hts⟩ (c_X12_has l D cI cB cL cZ cG y19 v31_4) (va_cwS 2 hts gX12_stepOn_X12_has rfl rfl rfl (by decide +kernel) ⟨Nat.le_of_ble_eq_true rfl, Nat.le_of_ble_eq_true rfl⟩) ⟨xr_blind, fun U hU hW => xr_mk hU hW hPc hK⟩ rfl rfl hl.1 rfl (lv_room (Nat.le_of_ble_eq_true rfl)) dX12_stepOn_43 ⟨Nat.le_of_ble_eq_true rfl, Nat.le_of_ble_eq_true rfl⟩).run (fun r43 hr43 => ?_)
              obtain ⟨hr43, p43_t, p43_f⟩ := hr43
              clear hPc
              rcases hr43 with rfl | rfl
              · have j73 : ∀ (H : Heap) (locs : List Loc) (ls : Array Slot) (g73_aMO53 : Nat → Int32), zA MO_rooms 0 2 0 8 → zA MO_doors 0 2 0 12 → zA MO_one 0 24 0 7 → zA MO_other 0 24 0 7 → va_P D classes [(MO, .inr (12, oX12 aMO MO_taped MO_size MO_faultKind MO_faultPlace MO_at MO_end MO_token MO_number MO_name MO_bank MO_rb MO_codes MO_within MO_piled MO_unitsInRule MO_askThing MO_acts MO_undone MO_laid MO_heards MO_time)), ((aMO 11), .inl (cI, 2, .inl MO_rooms)), ((aMO 12), .inl (cI, 2, .inl MO_doors)), ((aMO 17), .inl (cI, 24, .inl MO_one)), ((aMO 18), .inl (cI, 24, .inl MO_other)), ((aMO 53), .inl (cI, 8, .inl g73_aMO53)), ((aMO 52), .inl (cI, 8, .inl MO_waysTo))] H → va_D A [(MO, .inr (12, oX12 aMO MO_taped MO_size MO_faultKind MO_faultPlace MO_at MO_end MO_token MO_number MO_name MO_bank MO_rb MO_codes MO_within MO_piled MO_unitsInRule MO_askThing MO_acts MO_undone MO_laid MO_heards MO_time)), ((aMO 11), .inl (cI, 2, .inl MO_rooms)), ((aMO 12), .inl (cI, 2, .inl MO_doors)), ((aMO 17), .inl (cI, 24, .inl MO_one)), ((aMO 18), .inl (cI, 24, .inl MO_other)), ((aMO 53), .inl (cI, 8, .inl g73_aMO53)), ((aMO 52), .inl (cI, 8, .inl MO_waysTo))] → va_S A s.heap H locs → lv_has ls 5 [(4, .int v31_4), (3, .int y19), (2, .int v2_2), (0, .ref MO), (1, .int x0)] → W p l e ({ frames := 2, cells := 0, slots := 0, locals := 45 } : Room) s m ([.ref MO, .int x0] : List Value).toArray below meth c H locs 0 0 Q (F0 m 73 ls []) := by
                  intro H locs ls g73_aMO53 sMO_rooms_0_k73 sMO_doors_0_k73 sMO_one_0_k73 sMO_other_0_k73 hP hD hS hl
                  obtain ⟨y73, by73, ry73, ey73⟩ := zi_inc (x := v31_4) (k := 1) (a := 1) (b := 8) bx37f_v31_4 (by decide) (by decide) (by decide) (by decide) (by decide)
                  refine lv_iinc (v := y73) (lv' := [(4, .int y73), (3, .int y19), (2, .int v2_2), (0, .ref MO), (1, .int x0)]) hx hb dX12_stepOn_73 hl (k := 0) rfl ey73 (by decide) rfl (fun ls hl => ?_)
                  refine lv_goto (tgt := 31) hx hb dX12_stepOn_76 (by decide) ?_
                  exact ih31 H locs ls y73 g73_aMO53 (zB_w by73 (by decide) (by decide)) sMO_rooms_0_k73 sMO_doors_0_k73 sMO_one_0_k73 sMO_other_0_k73 (zM_us (k := 1) hm31 ry73 (by decide)) hP hD hS (lv_sub hl [0, 1, 2, 3, 4] rfl)
                refine lv_if_eq (tgt := 73) hx hb dX12_stepOn_46 (by decide) (fun _ => ?_) (fun c46 => absurd (by decide) c46)
                exact j73 H locs ls g31_aMO53 sMO_rooms_0_k31 sMO_doors_0_k31 sMO_one_0_k31 sMO_other_0_k31 hP hD hS (lv_sub hl [0, 1, 2, 3, 4] rfl)
              · have j73 : ∀ (H : Heap) (locs : List Loc) (ls : Array Slot) (g73_aMO53 : Nat → Int32), zA MO_rooms 0 2 0 8 → zA MO_doors 0 2 0 12 → zA MO_one 0 24 0 7 → zA MO_other 0 24 0 7 → va_P D classes [(MO, .inr (12, oX12 aMO MO_taped MO_size MO_faultKind MO_faultPlace MO_at MO_end MO_token MO_number MO_name MO_bank MO_rb MO_codes MO_within MO_piled MO_unitsInRule MO_askThing MO_acts MO_undone MO_laid MO_heards MO_time)), ((aMO 11), .inl (cI, 2, .inl MO_rooms)), ((aMO 12), .inl (cI, 2, .inl MO_doors)), ((aMO 17), .inl (cI, 24, .inl MO_one)), ((aMO 18), .inl (cI, 24, .inl MO_other)), ((aMO 53), .inl (cI, 8, .inl g73_aMO53)), ((aMO 52), .inl (cI, 8, .inl MO_waysTo))] H → va_D A [(MO, .inr (12, oX12 aMO MO_taped MO_size MO_faultKind MO_faultPlace MO_at MO_end MO_token MO_number MO_name MO_bank MO_rb MO_codes MO_within MO_piled MO_unitsInRule MO_askThing MO_acts MO_undone MO_laid MO_heards MO_time)), ((aMO 11), .inl (cI, 2, .inl MO_rooms)), ((aMO 12), .inl (cI, 2, .inl MO_doors)), ((aMO 17), .inl (cI, 24, .inl MO_one)), ((aMO 18), .inl (cI, 24, .inl MO_other)), ((aMO 53), .inl (cI, 8, .inl g73_aMO53)), ((aMO 52), .inl (cI, 8, .inl MO_waysTo))] → va_S A s.heap H locs → lv_has ls 5 [(4, .int v31_4), (3, .int y19), (2, .int v2_2), (0, .ref MO), (1, .int x0)] → W p l e ({ frames := 2, cells := 0, slots := 0, locals := 45 } : Room) s m ([.ref MO, .int x0] : List Value).toArray below meth c H locs 0 0 Q (F0 m 73 ls []) := by
                  intro H locs ls g73_aMO53 sMO_rooms_0_k73 sMO_doors_0_k73 sMO_one_0_k73 sMO_other_0_k73 hP hD hS hl
                  obtain ⟨y73, by73, ry73, ey73⟩ := zi_inc (x := v31_4) (k := 1) (a := 1) (b := 8) bx37f_v31_4 (by decide) (by decide) (by decide) (by decide) (by decide)
                  refine lv_iinc (v := y73) (lv' := [(4, .int y73), (3, .int y19), (2, .int v2_2), (0, .ref MO), (1, .int x0)]) hx hb dX12_stepOn_73 hl (k := 0) rfl ey73 (by decide) rfl (fun ls hl => ?_)
                  refine lv_goto (tgt := 31) hx hb dX12_stepOn_76 (by decide) ?_
                  exact ih31 H locs ls y73 g73_aMO53 (zB_w by73 (by decide) (by decide)) sMO_rooms_0_k73 sMO_doors_0_k73 sMO_one_0_k73 sMO_other_0_k73 (zM_us (k := 1) hm31 ry73 (by decide)) hP hD hS (lv_sub hl [0, 1, 2, 3, 4] rfl)
                refine lv_if_eq (tgt := 73) hx hb dX12_stepOn_46 (by decide) (fun c46 => absurd c46 (by decide)) (fun _ => ?_)
                refine lv_iload_n hx hb dX12_stepOn_49 rfl (lv_at hl 4 rfl) ?_
                refine lv_iload_n hx hb dX12_stepOn_50 rfl (lv_at hl 2 rfl) ?_
                have hPc := hP.sub (ws' := []) [] rfl
                refine vp_callSi (va_runS (As := [.int x0, .int v2_2]) (rest := []) ⟨hx, hb, hml, hown, hts⟩ (c_X12_has l D cI cB cL cZ cG x0 v2_2) (va_cwS 2 hts gX12_stepOn_X12_has rfl rfl rfl (by decide +kernel) ⟨Nat.le_of_ble_eq_true rfl, Nat.le_of_ble_eq_true rfl⟩) ⟨xr_blind, fun U hU hW => xr_mk hU hW hPc hK⟩ rfl rfl hl.1 rfl (lv_room (Nat.le_of_ble_eq_true rfl)) dX12_stepOn_51 ⟨Nat.le_of_ble_eq_true rfl, Nat.le_of_ble_eq_true rfl⟩).run (fun r51 hr51 => ?_)
                obtain ⟨hr51, p51_t, p51_f⟩ := hr51
                clear hPc
                rcases hr51 with rfl | rfl
                · refine lv_if_eq (tgt := 73) hx hb dX12_stepOn_54 (by decide) (fun _ => ?_) (fun c54 => absurd (by decide) c54)
                  exact j73 H locs ls g31_aMO53 sMO_rooms_0_k31 sMO_doors_0_k31 sMO_one_0_k31 sMO_other_0_k31 hP hD hS (lv_sub hl [0, 1, 2, 3, 4] rfl)
                · refine lv_if_eq (tgt := 73) hx hb dX12_stepOn_54 (by decide) (fun c54 => absurd c54 (by decide)) (fun _ => ?_)
                  refine lv_aload_n hx hb dX12_stepOn_57 rfl (lv_at hl 3 rfl) ?_
                  refine va_get (D := D) (ci := 12) (v := .ref (aMO 53)) (C := RX12) (T := TX12) (N := 71) hx hb hts iw_X12_stepOn_X12 hown hK hP 0 rfl rfl 53 (by decide) (hts (.fieldLink RX12 119 "SoldHouseModel" "waysThen" "[I") (List.mem_of_getElem? (i := 1) rfl)) (fun _ h9 => h9) rfl dX12_stepOn_58 ?_
                  refine lv_iload_n hx hb dX12_stepOn_61 rfl (lv_at hl 2 rfl) ?_
                  refine lv_dup2_11 hx hb dX12_stepOn_62 rfl rfl ?_
                  refine va_iald hx hb hK hP 5 0 rfl rfl (zB_in bx7f_v2_2 (by decide) (by decide)) dX12_stepOn_63 ?_
                  refine lv_topi (fun y63 _ => ?_)
                  refine lv_aload_n hx hb dX12_stepOn_64 rfl (lv_at hl 3 rfl) ?_
                  refine va_get (D := D) (ci := 12) (v := .ref (aMO 52)) (C := RX12) (T := TX12) (N := 71) hx hb hts iw_X12_stepOn_X12 hown hK hP 0 rfl rfl 52 (by decide) (hts (.fieldLink RX12 116 "SoldHouseModel" "waysTo" "[I") (List.mem_of_getElem? (i := 2) rfl)) (fun _ h9 => h9) rfl dX12_stepOn_65 ?_
                  refine lv_iload hx hb dX12_stepOn_68 (lv_at hl 0 rfl) ?_
                  refine va_iald hx hb hK hP 6 0 rfl rfl (zB_in bx37f_v31_4 (by decide) (by decide)) dX12_stepOn_70 ?_
                  refine lv_topi (fun y70 _ => ?_)
                  refine lv_iadd hx hb dX12_stepOn_71 ?_
                  refine lv_topi (fun y71 _ => ?_)
                  refine zi_iast hx hb hK hP hD hS 5 0 rfl rfl (zB_in bx7f_v2_2 (by decide) (by decide)) dX12_stepOn_72 (fun H locs g72 eg72 hP hD hS => ?_)
                  replace hP : va_P D classes [(MO, .inr (12, oX12 aMO MO_taped MO_size MO_faultKind MO_faultPlace MO_at MO_end MO_token MO_number MO_name MO_bank MO_rb MO_codes MO_within MO_piled MO_unitsInRule MO_askThing MO_acts MO_undone MO_laid MO_heards MO_time)), ((aMO 11), .inl (cI, 2, .inl MO_rooms)), ((aMO 12), .inl (cI, 2, .inl MO_doors)), ((aMO 17), .inl (cI, 24, .inl MO_one)), ((aMO 18), .inl (cI, 24, .inl MO_other)), ((aMO 53), .inl (cI, 8, .inl g72)), ((aMO 52), .inl (cI, 8, .inl MO_waysTo))] H := hP
                  replace hD : va_D A [(MO, .inr (12, oX12 aMO MO_taped MO_size MO_faultKind MO_faultPlace MO_at MO_end MO_token MO_number MO_name MO_bank MO_rb MO_codes MO_within MO_piled MO_unitsInRule MO_askThing MO_acts MO_undone MO_laid MO_heards MO_time)), ((aMO 11), .inl (cI, 2, .inl MO_rooms)), ((aMO 12), .inl (cI, 2, .inl MO_doors)), ((aMO 17), .inl (cI, 24, .inl MO_one)), ((aMO 18), .inl (cI, 24, .inl MO_other)), ((aMO 53), .inl (cI, 8, .inl g72)), ((aMO 52), .inl (cI, 8, .inl MO_waysTo))] := hD
                  clear eg72
                  exact j73 H locs ls g72 sMO_rooms_0_k31 sMO_doors_0_k31 sMO_one_0_k31 sMO_other_0_k31 hP hD hS (lv_sub hl [0, 1, 2, 3, 4] rfl)
        refine lv_istore (lv' := [(4, .int 0), (3, .int y19), (2, .int v2_2), (0, .ref MO), (1, .int x0)]) hx hb dX12_stepOn_29 hl (by decide) rfl (fun ls hl => ?_)
        exact j31 9 H locs ls 0 g27 (zB_w (show zB 0 0 0 from ⟨by decide, by decide⟩) (by decide) (by decide)) sMO_rooms_0_k2 sMO_doors_0_k2 sMO_one_0_k2 sMO_other_0_k2 (zM_ui (show zB 0 0 0 from ⟨by decide, by decide⟩) (by decide)) hP hD hS (lv_sub hl [0, 1, 2, 3, 4] rfl)
  refine lv_istore_n (lv' := [(2, .int 0), (0, .ref MO), (1, .int x0)]) hx hb dX12_stepOn_1 rfl hl (by decide) rfl (fun ls hl => ?_)
  exact j2 9 H locs ls 0 MO_waysThen (zB_w (show zB 0 0 0 from ⟨by decide, by decide⟩) (by decide) (by decide)) s_MO_rooms_0 s_MO_doors_0 s_MO_one_0 s_MO_other_0 (zM_ui (show zB 0 0 0 from ⟨by decide, by decide⟩) (by decide)) hP hD hS (lv_sub hl [0, 1, 2] rfl)
set_option maxHeartbeats 4000000 in
set_option maxRecDepth 100000 in
theorem c_X12_layWalks (l : Launch) (D : va_G) (cI : ClassId) (cB : ClassId) (cL : ClassId) (cZ : ClassId) (cG : ClassId) (MO : Nat) (x0 : Int32) (aMO : Nat → Nat) (MO_taped : Int32) (MO_size : Int32) (MO_faultKind : Int32) (MO_faultPlace : Int32) (MO_at : Int32) (MO_end : Int32) (MO_token : Int32) (MO_number : Int32) (MO_name : Int64) (MO_bank : Int32) (MO_rb : Int32) (MO_codes : Int32) (MO_within : Int32) (MO_piled : Int32) (MO_unitsInRule : Int32) (MO_askThing : Int32) (MO_acts : Int32) (MO_undone : Int32) (MO_laid : Int32) (MO_heards : Int32) (MO_time : Int32) (MO_rooms : Nat → Int32) (MO_hMinute : Nat → Int32) (MO_hTold : Nat → Int32) (MO_hUntold : Nat → Int32) (MO_hRoom : Nat → Int32) (MO_creaks : Nat → Int32) (MO_hCreaks : Nat → Int32) (MO_hIs : Nat → Int32) (MO_waysTo : Nat → Int32) (MO_waysAt : Nat → Int32) (MO_doors : Nat → Int32) (MO_one : Nat → Int32) (MO_other : Nat → Int32) (MO_waysThen : Nat → Int32) (MO_waysOn : Nat → Int32) (sz : Nat) (b_MO_taped : zB MO_taped 0 1600) (b_MO_size : zB MO_size 0 1600) (b_MO_faultKind : zB MO_faultKind 0 5) (b_MO_at : zB MO_at 0 1600) (b_MO_end : zB MO_end 0 1600) (b_MO_token : zB MO_token 0 5) (b_MO_bank : zB MO_bank 0 1) (b_MO_rb : zB MO_rb 0 1) (b_MO_codes : zB MO_codes 0 1120) (b_MO_within : zB MO_within 0 7) (b_MO_piled : zB MO_piled 0 89) (b_MO_unitsInRule : zB MO_unitsInRule 0 30) (b_MO_askThing : zB MO_askThing 0 5) (b_MO_acts : zB MO_acts 0 40) (b_MO_undone : zB MO_undone 0 40) (b_MO_laid : zB MO_laid 0 8) (b_MO_heards : zB MO_heards 0 30) (b_MO_time : zB MO_time 0 100000) (s_MO_rooms_0 : zA MO_rooms 0 2 0 8) (s_MO_creaks_0 : zA MO_creaks 0 16 0 9) (s_MO_doors_0 : zA MO_doors 0 2 0 12) (s_MO_one_0 : zA MO_one 0 24 0 7) (s_MO_other_0 : zA MO_other 0 24 0 7) : Met l yX12_layWalks wsX12_layWalks ({ frames := 3, cells := 0, slots := 0, locals := 69 }) (xp D [(cI, .int), (cB, .byte), (cL, .long), (cZ, .boolean), (cG, .array .int)] [(MO, .inr (12, oX12 aMO MO_taped MO_size MO_faultKind MO_faultPlace MO_at MO_end MO_token MO_number MO_name MO_bank MO_rb MO_codes MO_within MO_piled MO_unitsInRule MO_askThing MO_acts MO_undone MO_laid MO_heards MO_time)), ((aMO 11), .inl (cI, 2, .inl MO_rooms)), ((aMO 59), .inl (cI, 30, .inl MO_hMinute)), ((aMO 63), .inl (cI, 30, .inl MO_hTold)), ((aMO 64), .inl (cI, 30, .inl MO_hUntold)), ((aMO 61), .inl (cI, 30, .inl MO_hRoom)), ((aMO 16), .inl (cI, 16, .inl MO_creaks)), ((aMO 60), .inl (cI, 30, .inl MO_hCreaks)), ((aMO 62), .inl (cI, 30, .inl MO_hIs)), ((aMO 52), .inl (cI, 8, .inl MO_waysTo)), ((aMO 65), .inl (cI, 64, .inl MO_waysAt)), ((aMO 12), .inl (cI, 2, .inl MO_doors)), ((aMO 17), .inl (cI, 24, .inl MO_one)), ((aMO 18), .inl (cI, 24, .inl MO_other)), ((aMO 53), .inl (cI, 8, .inl MO_waysThen)), ((aMO 66), .inl (cI, 64, .inl MO_waysOn))] sz [] [.ref MO, .int x0]) (va_Qv (fun _ : Unit => True) (fun (_ : Unit) (t : State) => ∃ (nMOwaysTo : Nat → Int32), ∃ (nMOwaysAt : Nat → Int32), ∃ (nMOwaysThen : Nat → Int32), ∃ (nMOwaysOn : Nat → Int32), xB D (va_A [(MO, .inr (12, oX12 aMO MO_taped MO_size MO_faultKind MO_faultPlace MO_at MO_end MO_token MO_number MO_name MO_bank MO_rb MO_codes MO_within MO_piled MO_unitsInRule MO_askThing MO_acts MO_undone MO_laid MO_heards MO_time)), ((aMO 11), .inl (cI, 2, .inl MO_rooms)), ((aMO 59), .inl (cI, 30, .inl MO_hMinute)), ((aMO 63), .inl (cI, 30, .inl MO_hTold)), ((aMO 64), .inl (cI, 30, .inl MO_hUntold)), ((aMO 61), .inl (cI, 30, .inl MO_hRoom)), ((aMO 16), .inl (cI, 16, .inl MO_creaks)), ((aMO 60), .inl (cI, 30, .inl MO_hCreaks)), ((aMO 62), .inl (cI, 30, .inl MO_hIs)), ((aMO 52), .inl (cI, 8, .inl MO_waysTo)), ((aMO 65), .inl (cI, 64, .inl MO_waysAt)), ((aMO 12), .inl (cI, 2, .inl MO_doors)), ((aMO 17), .inl (cI, 24, .inl MO_one)), ((aMO 18), .inl (cI, 24, .inl MO_other)), ((aMO 53), .inl (cI, 8, .inl MO_waysThen)), ((aMO 66), .inl (cI, 64, .inl MO_waysOn))] sz) [(MO, .inr (12, oX12 aMO MO_taped MO_size MO_faultKind MO_faultPlace MO_at MO_end MO_token MO_number MO_name MO_bank MO_rb MO_codes MO_within MO_piled MO_unitsInRule MO_askThing MO_acts MO_undone MO_laid MO_heards MO_time)), ((aMO 11), .inl (cI, 2, .inl MO_rooms)), ((aMO 59), .inl (cI, 30, .inl MO_hMinute)), ((aMO 63), .inl (cI, 30, .inl MO_hTold)), ((aMO 64), .inl (cI, 30, .inl MO_hUntold)), ((aMO 61), .inl (cI, 30, .inl MO_hRoom)), ((aMO 16), .inl (cI, 16, .inl MO_creaks)), ((aMO 60), .inl (cI, 30, .inl MO_hCreaks)), ((aMO 62), .inl (cI, 30, .inl MO_hIs)), ((aMO 52), .inl (cI, 8, .inl nMOwaysTo)), ((aMO 65), .inl (cI, 64, .inl nMOwaysAt)), ((aMO 12), .inl (cI, 2, .inl MO_doors)), ((aMO 17), .inl (cI, 24, .inl MO_one)), ((aMO 18), .inl (cI, 24, .inl MO_other)), ((aMO 53), .inl (cI, 8, .inl nMOwaysThen)), ((aMO 66), .inl (cI, 64, .inl nMOwaysOn))] t) (va_A [(MO, .inr (12, oX12 aMO MO_taped MO_size MO_faultKind MO_faultPlace MO_at MO_end MO_token MO_number MO_name MO_bank MO_rb MO_codes MO_within MO_piled MO_unitsInRule MO_askThing MO_acts MO_undone MO_laid MO_heards MO_time)), ((aMO 11), .inl (cI, 2, .inl MO_rooms)), ((aMO 59), .inl (cI, 30, .inl MO_hMinute)), ((aMO 63), .inl (cI, 30, .inl MO_hTold)), ((aMO 64), .inl (cI, 30, .inl MO_hUntold)), ((aMO 61), .inl (cI, 30, .inl MO_hRoom)), ((aMO 16), .inl (cI, 16, .inl MO_creaks)), ((aMO 60), .inl (cI, 30, .inl MO_hCreaks)), ((aMO 62), .inl (cI, 30, .inl MO_hIs)), ((aMO 52), .inl (cI, 8, .inl MO_waysTo)), ((aMO 65), .inl (cI, 64, .inl MO_waysAt)), ((aMO 12), .inl (cI, 2, .inl MO_doors)), ((aMO 17), .inl (cI, 24, .inl MO_one)), ((aMO 18), .inl (cI, 24, .inl MO_other)), ((aMO 53), .inl (cI, 8, .inl MO_waysThen)), ((aMO 66), .inl (cI, 64, .inl MO_waysOn))] sz)) 0 0 (va_A [(MO, .inr (12, oX12 aMO MO_taped MO_size MO_faultKind MO_faultPlace MO_at MO_end MO_token MO_number MO_name MO_bank MO_rb MO_codes MO_within MO_piled MO_unitsInRule MO_askThing MO_acts MO_undone MO_laid MO_heards MO_time)), ((aMO 11), .inl (cI, 2, .inl MO_rooms)), ((aMO 59), .inl (cI, 30, .inl MO_hMinute)), ((aMO 63), .inl (cI, 30, .inl MO_hTold)), ((aMO 64), .inl (cI, 30, .inl MO_hUntold)), ((aMO 61), .inl (cI, 30, .inl MO_hRoom)), ((aMO 16), .inl (cI, 16, .inl MO_creaks)), ((aMO 60), .inl (cI, 30, .inl MO_hCreaks)), ((aMO 62), .inl (cI, 30, .inl MO_hIs)), ((aMO 52), .inl (cI, 8, .inl MO_waysTo)), ((aMO 65), .inl (cI, 64, .inl MO_waysAt)), ((aMO 12), .inl (cI, 2, .inl MO_doors)), ((aMO 17), .inl (cI, 24, .inl MO_one)), ((aMO 18), .inl (cI, 24, .inl MO_other)), ((aMO 53), .inl (cI, 8, .inl MO_waysThen)), ((aMO 66), .inl (cI, 64, .inl MO_waysOn))] sz) := by
  refine Met.ofW (cc := cX12_layWalks) (maxL := 4) (ret := none) (by decide) rfl ?_
  intro p e s m args below meth c s₁ B hml hv
  obtain ⟨rfl, hsz, hP, hK, hD0, hNw⟩ := hv
  have hx := B.exec
  have hb := B.bytes
  have hr := B.returns
  have hts := atoms_spec (ws := wsX12_layWalks) B.pre
  have hown : s.vm.findClass RX12 = some m.cls := findClass_of_methodNamed B.named
  have hlocks := B.notSynchronized
  clear B
  subst hsz
  have hD := hD0.self (sz := s.heap.size)
  clear hD0 hNw
  generalize hAe : va_A [(MO, .inr (12, oX12 aMO MO_taped MO_size MO_faultKind MO_faultPlace MO_at MO_end MO_token MO_number MO_name MO_bank MO_rb MO_codes MO_within MO_piled MO_unitsInRule MO_askThing MO_acts MO_undone MO_laid MO_heards MO_time)), ((aMO 11), .inl (cI, 2, .inl MO_rooms)), ((aMO 59), .inl (cI, 30, .inl MO_hMinute)), ((aMO 63), .inl (cI, 30, .inl MO_hTold)), ((aMO 64), .inl (cI, 30, .inl MO_hUntold)), ((aMO 61), .inl (cI, 30, .inl MO_hRoom)), ((aMO 16), .inl (cI, 16, .inl MO_creaks)), ((aMO 60), .inl (cI, 30, .inl MO_hCreaks)), ((aMO 62), .inl (cI, 30, .inl MO_hIs)), ((aMO 52), .inl (cI, 8, .inl MO_waysTo)), ((aMO 65), .inl (cI, 64, .inl MO_waysAt)), ((aMO 12), .inl (cI, 2, .inl MO_doors)), ((aMO 17), .inl (cI, 24, .inl MO_one)), ((aMO 18), .inl (cI, 24, .inl MO_other)), ((aMO 53), .inl (cI, 8, .inl MO_waysThen)), ((aMO 66), .inl (cI, 64, .inl MO_waysOn))] s.heap.size = A at hD ⊢
  have hA : ∀ q : Nat, s.heap.size ≤ q → A q := fun q h => by rw [← hAe]; exact Or.inr h
  have hS : va_S A s.heap s.heap [] := va_S.rf
  clear hAe
  obtain ⟨H, hH⟩ : ∃ H : Heap, H = s.heap := ⟨_, rfl⟩
  obtain ⟨locs, hlocs⟩ : ∃ L : List Loc, L = [] := ⟨_, rfl⟩
  replace hP : va_P D classes [(MO, .inr (12, oX12 aMO MO_taped MO_size MO_faultKind MO_faultPlace MO_at MO_end MO_token MO_number MO_name MO_bank MO_rb MO_codes MO_within MO_piled MO_unitsInRule MO_askThing MO_acts MO_undone MO_laid MO_heards MO_time)), ((aMO 11), .inl (cI, 2, .inl MO_rooms)), ((aMO 59), .inl (cI, 30, .inl MO_hMinute)), ((aMO 63), .inl (cI, 30, .inl MO_hTold)), ((aMO 64), .inl (cI, 30, .inl MO_hUntold)), ((aMO 61), .inl (cI, 30, .inl MO_hRoom)), ((aMO 16), .inl (cI, 16, .inl MO_creaks)), ((aMO 60), .inl (cI, 30, .inl MO_hCreaks)), ((aMO 62), .inl (cI, 30, .inl MO_hIs)), ((aMO 52), .inl (cI, 8, .inl MO_waysTo)), ((aMO 65), .inl (cI, 64, .inl MO_waysAt)), ((aMO 12), .inl (cI, 2, .inl MO_doors)), ((aMO 17), .inl (cI, 24, .inl MO_one)), ((aMO 18), .inl (cI, 24, .inl MO_other)), ((aMO 53), .inl (cI, 8, .inl MO_waysThen)), ((aMO 66), .inl (cI, 64, .inl MO_waysOn))] H := by rw [hH]; exact hP
  replace hS : va_S A s.heap H locs := by rw [hH, hlocs]; exact hS
  rw [← hH, ← hlocs]
  clear hlocs hH
  have hl := lv_entry ([.ref MO, .int x0]) (n := 4) (Nat.le_of_ble_eq_true rfl)
  rw [lg_entry_eq]
  generalize (lg_sl ([.ref MO, .int x0]) ++ List.replicate (4 - (lg_sl ([.ref MO, .int x0])).length) Slot.unset).toArray = ls at hl ⊢
  replace hl : lv_has ls 4 [(0, .ref MO), (1, .int x0)] := hl
  refine zz_abs (R := ({ frames := 3, cells := 0, slots := 0, locals := 69 } : Room)) (fun Q up => ?_)
  refine lv_iconst (v := 0) hx hb dX12_layWalks_0 (by decide) ?_
  have j2 : ∀ (n2 : Nat) (H : Heap) (locs : List Loc) (ls : Array Slot) (v2_2 : Int32) (g2_aMO52 : Nat → Int32), zB v2_2 0 8 → zA MO_rooms 0 2 0 8 → zA MO_creaks 0 16 0 9 → zA MO_doors 0 2 0 12 → zA MO_one 0 24 0 7 → zA MO_other 0 24 0 7 → (8 + 1 - v2_2.toInt) ≤ (n2 : Int) → va_P D classes [(MO, .inr (12, oX12 aMO MO_taped MO_size MO_faultKind MO_faultPlace MO_at MO_end MO_token MO_number MO_name MO_bank MO_rb MO_codes MO_within MO_piled MO_unitsInRule MO_askThing MO_acts MO_undone MO_laid MO_heards MO_time)), ((aMO 11), .inl (cI, 2, .inl MO_rooms)), ((aMO 59), .inl (cI, 30, .inl MO_hMinute)), ((aMO 63), .inl (cI, 30, .inl MO_hTold)), ((aMO 64), .inl (cI, 30, .inl MO_hUntold)), ((aMO 61), .inl (cI, 30, .inl MO_hRoom)), ((aMO 16), .inl (cI, 16, .inl MO_creaks)), ((aMO 60), .inl (cI, 30, .inl MO_hCreaks)), ((aMO 62), .inl (cI, 30, .inl MO_hIs)), ((aMO 52), .inl (cI, 8, .inl g2_aMO52)), ((aMO 65), .inl (cI, 64, .inl MO_waysAt)), ((aMO 12), .inl (cI, 2, .inl MO_doors)), ((aMO 17), .inl (cI, 24, .inl MO_one)), ((aMO 18), .inl (cI, 24, .inl MO_other)), ((aMO 53), .inl (cI, 8, .inl MO_waysThen)), ((aMO 66), .inl (cI, 64, .inl MO_waysOn))] H → va_D A [(MO, .inr (12, oX12 aMO MO_taped MO_size MO_faultKind MO_faultPlace MO_at MO_end MO_token MO_number MO_name MO_bank MO_rb MO_codes MO_within MO_piled MO_unitsInRule MO_askThing MO_acts MO_undone MO_laid MO_heards MO_time)), ((aMO 11), .inl (cI, 2, .inl MO_rooms)), ((aMO 59), .inl (cI, 30, .inl MO_hMinute)), ((aMO 63), .inl (cI, 30, .inl MO_hTold)), ((aMO 64), .inl (cI, 30, .inl MO_hUntold)), ((aMO 61), .inl (cI, 30, .inl MO_hRoom)), ((aMO 16), .inl (cI, 16, .inl MO_creaks)), ((aMO 60), .inl (cI, 30, .inl MO_hCreaks)), ((aMO 62), .inl (cI, 30, .inl MO_hIs)), ((aMO 52), .inl (cI, 8, .inl g2_aMO52)), ((aMO 65), .inl (cI, 64, .inl MO_waysAt)), ((aMO 12), .inl (cI, 2, .inl MO_doors)), ((aMO 17), .inl (cI, 24, .inl MO_one)), ((aMO 18), .inl (cI, 24, .inl MO_other)), ((aMO 53), .inl (cI, 8, .inl MO_waysThen)), ((aMO 66), .inl (cI, 64, .inl MO_waysOn))] → va_S A s.heap H locs → lv_has ls 4 [(2, .int v2_2), (0, .ref MO), (1, .int x0)] → W p l e ({ frames := 3, cells := 0, slots := 0, locals := 69 } : Room) s m ([.ref MO, .int x0] : List Value).toArray below meth c H locs 0 0 Q (F0 m 2 ls []) := by
    intro n2
    induction n2 with
    | zero => intro H locs ls v2_2 g2_aMO52 bv2_2_k2 sMO_rooms_0_k2 sMO_creaks_0_k2 sMO_doors_0_k2 sMO_one_0_k2 sMO_other_0_k2 hm2 hP hD hS hl; exact zM_u0 bv2_2_k2 hm2
    | succ n2 ih2 =>
      intro H locs ls v2_2 g2_aMO52 bv2_2_k2 sMO_rooms_0_k2 sMO_creaks_0_k2 sMO_doors_0_k2 sMO_one_0_k2 sMO_other_0_k2 hm2 hP hD hS hl
      refine lv_iload_n hx hb dX12_layWalks_2 rfl (lv_at hl 0 rfl) ?_
      refine lv_aload_n hx hb dX12_layWalks_3 rfl (lv_at hl 1 rfl) ?_
      have hPc := hP.sub (ws' := [(MO, .inr (12, oX12 aMO MO_taped MO_size MO_faultKind MO_faultPlace MO_at MO_end MO_token MO_number MO_name MO_bank MO_rb MO_codes MO_within MO_piled MO_unitsInRule MO_askThing MO_acts MO_undone MO_laid MO_heards MO_time)), ((aMO 11), .inl (cI, 2, .inl MO_rooms))]) [0, 1] rfl
      refine vp_callSi (va_runV (As := []) (rest := [.int v2_2]) ⟨hx, hb, hml, hown, hts⟩ (c_X12_places l D cI cB cL cZ cG MO aMO MO_taped MO_size MO_faultKind MO_faultPlace MO_at MO_end MO_token MO_number MO_name MO_bank MO_rb MO_codes MO_within MO_piled MO_unitsInRule MO_askThing MO_acts MO_undone MO_laid MO_heards MO_time MO_rooms b_MO_taped b_MO_size b_MO_faultKind b_MO_at b_MO_end b_MO_token b_MO_bank b_MO_rb b_MO_codes b_MO_within b_MO_piled b_MO_unitsInRule b_MO_askThing b_MO_acts b_MO_undone b_MO_laid b_MO_heards b_MO_time sMO_rooms_0_k2) (cwV 0 hts gX12_layWalks_X12_places rfl rfl rfl (by decide +kernel) ⟨Nat.le_of_ble_eq_true rfl, Nat.le_of_ble_eq_true rfl⟩) ⟨xr_blind, va_recv hK hP (ci := 12) (q0 := 0) rfl rfl, fun U hU hW => xr_mk hU hW hPc hK⟩ rfl rfl hl.1 rfl (lv_room (Nat.le_of_ble_eq_true rfl)) dX12_layWalks_4 ⟨Nat.le_of_ble_eq_true rfl, Nat.le_of_ble_eq_true rfl⟩).run (fun r4 hr4 => ?_)
      obtain ⟨hr4, p4_v, p4_i⟩ := hr4
      clear hPc
      refine lv_icmp_ge (tgt := 32) hx hb dX12_layWalks_7 (by decide) (fun c7 => ?_) (fun c7 => ?_)
      · refine lv_iconst (v := 0) hx hb dX12_layWalks_32 (by decide) ?_
        have j34 : ∀ (n34 : Nat) (H : Heap) (locs : List Loc) (ls : Array Slot) (v34_2 : Int32) (g34_aMO52 : Nat → Int32) (g34_aMO65 : Nat → Int32) (g34_aMO53 : Nat → Int32), zB v34_2 0 8 → zA MO_rooms 0 2 0 8 → zA MO_creaks 0 16 0 9 → zA MO_doors 0 2 0 12 → zA MO_one 0 24 0 7 → zA MO_other 0 24 0 7 → (8 + 1 - v34_2.toInt) ≤ (n34 : Int) → va_P D classes [(MO, .inr (12, oX12 aMO MO_taped MO_size MO_faultKind MO_faultPlace MO_at MO_end MO_token MO_number MO_name MO_bank MO_rb MO_codes MO_within MO_piled MO_unitsInRule MO_askThing MO_acts MO_undone MO_laid MO_heards MO_time)), ((aMO 11), .inl (cI, 2, .inl MO_rooms)), ((aMO 59), .inl (cI, 30, .inl MO_hMinute)), ((aMO 63), .inl (cI, 30, .inl MO_hTold)), ((aMO 64), .inl (cI, 30, .inl MO_hUntold)), ((aMO 61), .inl (cI, 30, .inl MO_hRoom)), ((aMO 16), .inl (cI, 16, .inl MO_creaks)), ((aMO 60), .inl (cI, 30, .inl MO_hCreaks)), ((aMO 62), .inl (cI, 30, .inl MO_hIs)), ((aMO 52), .inl (cI, 8, .inl g34_aMO52)), ((aMO 65), .inl (cI, 64, .inl g34_aMO65)), ((aMO 12), .inl (cI, 2, .inl MO_doors)), ((aMO 17), .inl (cI, 24, .inl MO_one)), ((aMO 18), .inl (cI, 24, .inl MO_other)), ((aMO 53), .inl (cI, 8, .inl g34_aMO53)), ((aMO 66), .inl (cI, 64, .inl MO_waysOn))] H → va_D A [(MO, .inr (12, oX12 aMO MO_taped MO_size MO_faultKind MO_faultPlace MO_at MO_end MO_token MO_number MO_name MO_bank MO_rb MO_codes MO_within MO_piled MO_unitsInRule MO_askThing MO_acts MO_undone MO_laid MO_heards MO_time)), ((aMO 11), .inl (cI, 2, .inl MO_rooms)), ((aMO 59), .inl (cI, 30, .inl MO_hMinute)), ((aMO 63), .inl (cI, 30, .inl MO_hTold)), ((aMO 64), .inl (cI, 30, .inl MO_hUntold)), ((aMO 61), .inl (cI, 30, .inl MO_hRoom)), ((aMO 16), .inl (cI, 16, .inl MO_creaks)), ((aMO 60), .inl (cI, 30, .inl MO_hCreaks)), ((aMO 62), .inl (cI, 30, .inl MO_hIs)), ((aMO 52), .inl (cI, 8, .inl g34_aMO52)), ((aMO 65), .inl (cI, 64, .inl g34_aMO65)), ((aMO 12), .inl (cI, 2, .inl MO_doors)), ((aMO 17), .inl (cI, 24, .inl MO_one)), ((aMO 18), .inl (cI, 24, .inl MO_other)), ((aMO 53), .inl (cI, 8, .inl g34_aMO53)), ((aMO 66), .inl (cI, 64, .inl MO_waysOn))] → va_S A s.heap H locs → lv_has ls 4 [(2, .int v34_2), (0, .ref MO), (1, .int x0)] → W p l e ({ frames := 3, cells := 0, slots := 0, locals := 69 } : Room) s m ([.ref MO, .int x0] : List Value).toArray below meth c H locs 0 0 Q (F0 m 34 ls []) := by
          intro n34
          induction n34 with
          | zero => intro H locs ls v34_2 g34_aMO52 g34_aMO65 g34_aMO53 bv34_2_k34 sMO_rooms_0_k34 sMO_creaks_0_k34 sMO_doors_0_k34 sMO_one_0_k34 sMO_other_0_k34 hm34 hP hD hS hl; exact zM_u0 bv34_2_k34 hm34
          | succ n34 ih34 =>
            intro H locs ls v34_2 g34_aMO52 g34_aMO65 g34_aMO53 bv34_2_k34 sMO_rooms_0_k34 sMO_creaks_0_k34 sMO_doors_0_k34 sMO_one_0_k34 sMO_other_0_k34 hm34 hP hD hS hl
            refine lv_iload_n hx hb dX12_layWalks_34 rfl (lv_at hl 0 rfl) ?_
            refine lv_bipush (v := 8) hx hb dX12_layWalks_35 (by decide) ?_
            refine lv_icmp_ge (tgt := 93) hx hb dX12_layWalks_37 (by decide) (fun c37 => ?_) (fun c37 => ?_)
            · have by37t_v34_2 : zB v34_2 8 8 := zB_lev (ze c37) (show zB 8 8 8 from ⟨by decide, by decide⟩) bv34_2_k34 (by decide)
              refine lv_iconst (v := 0) hx hb dX12_layWalks_93 (by decide) ?_
              have j95 : ∀ (n95 : Nat) (H : Heap) (locs : List Loc) (ls : Array Slot) (v95_2 : Int32) (g95_aMO52 : Nat → Int32), zB v95_2 0 8 → zA MO_rooms 0 2 0 8 → zA MO_creaks 0 16 0 9 → zA MO_doors 0 2 0 12 → zA MO_one 0 24 0 7 → zA MO_other 0 24 0 7 → (8 + 1 - v95_2.toInt) ≤ (n95 : Int) → va_P D classes [(MO, .inr (12, oX12 aMO MO_taped MO_size MO_faultKind MO_faultPlace MO_at MO_end MO_token MO_number MO_name MO_bank MO_rb MO_codes MO_within MO_piled MO_unitsInRule MO_askThing MO_acts MO_undone MO_laid MO_heards MO_time)), ((aMO 11), .inl (cI, 2, .inl MO_rooms)), ((aMO 59), .inl (cI, 30, .inl MO_hMinute)), ((aMO 63), .inl (cI, 30, .inl MO_hTold)), ((aMO 64), .inl (cI, 30, .inl MO_hUntold)), ((aMO 61), .inl (cI, 30, .inl MO_hRoom)), ((aMO 16), .inl (cI, 16, .inl MO_creaks)), ((aMO 60), .inl (cI, 30, .inl MO_hCreaks)), ((aMO 62), .inl (cI, 30, .inl MO_hIs)), ((aMO 52), .inl (cI, 8, .inl g95_aMO52)), ((aMO 65), .inl (cI, 64, .inl g34_aMO65)), ((aMO 12), .inl (cI, 2, .inl MO_doors)), ((aMO 17), .inl (cI, 24, .inl MO_one)), ((aMO 18), .inl (cI, 24, .inl MO_other)), ((aMO 53), .inl (cI, 8, .inl g34_aMO53)), ((aMO 66), .inl (cI, 64, .inl MO_waysOn))] H → va_D A [(MO, .inr (12, oX12 aMO MO_taped MO_size MO_faultKind MO_faultPlace MO_at MO_end MO_token MO_number MO_name MO_bank MO_rb MO_codes MO_within MO_piled MO_unitsInRule MO_askThing MO_acts MO_undone MO_laid MO_heards MO_time)), ((aMO 11), .inl (cI, 2, .inl MO_rooms)), ((aMO 59), .inl (cI, 30, .inl MO_hMinute)), ((aMO 63), .inl (cI, 30, .inl MO_hTold)), ((aMO 64), .inl (cI, 30, .inl MO_hUntold)), ((aMO 61), .inl (cI, 30, .inl MO_hRoom)), ((aMO 16), .inl (cI, 16, .inl MO_creaks)), ((aMO 60), .inl (cI, 30, .inl MO_hCreaks)), ((aMO 62), .inl (cI, 30, .inl MO_hIs)), ((aMO 52), .inl (cI, 8, .inl g95_aMO52)), ((aMO 65), .inl (cI, 64, .inl g34_aMO65)), ((aMO 12), .inl (cI, 2, .inl MO_doors)), ((aMO 17), .inl (cI, 24, .inl MO_one)), ((aMO 18), .inl (cI, 24, .inl MO_other)), ((aMO 53), .inl (cI, 8, .inl g34_aMO53)), ((aMO 66), .inl (cI, 64, .inl MO_waysOn))] → va_S A s.heap H locs → lv_has ls 4 [(2, .int v95_2), (0, .ref MO), (1, .int x0)] → W p l e ({ frames := 3, cells := 0, slots := 0, locals := 69 } : Room) s m ([.ref MO, .int x0] : List Value).toArray below meth c H locs 0 0 Q (F0 m 95 ls []) := by
                intro n95
                induction n95 with
                | zero => intro H locs ls v95_2 g95_aMO52 bv95_2_k95 sMO_rooms_0_k95 sMO_creaks_0_k95 sMO_doors_0_k95 sMO_one_0_k95 sMO_other_0_k95 hm95 hP hD hS hl; exact zM_u0 bv95_2_k95 hm95
                | succ n95 ih95 =>
                  intro H locs ls v95_2 g95_aMO52 bv95_2_k95 sMO_rooms_0_k95 sMO_creaks_0_k95 sMO_doors_0_k95 sMO_one_0_k95 sMO_other_0_k95 hm95 hP hD hS hl
                  refine lv_iload_n hx hb dX12_layWalks_95 rfl (lv_at hl 0 rfl) ?_
                  refine lv_aload_n hx hb dX12_layWalks_96 rfl (lv_at hl 1 rfl) ?_
                  have hPc := hP.sub (ws' := [(MO, .inr (12, oX12 aMO MO_taped MO_size MO_faultKind MO_faultPlace MO_at MO_end MO_token MO_number MO_name MO_bank MO_rb MO_codes MO_within MO_piled MO_unitsInRule MO_askThing MO_acts MO_undone MO_laid MO_heards MO_time)), ((aMO 11), .inl (cI, 2, .inl MO_rooms))]) [0, 1] rfl
                  refine vp_callSi (va_runV (As := []) (rest := [.int v95_2]) ⟨hx, hb, hml, hown, hts⟩ (c_X12_places l D cI cB cL cZ cG MO aMO MO_taped MO_size MO_faultKind MO_faultPlace MO_at MO_end MO_token MO_number MO_name MO_bank MO_rb MO_codes MO_within MO_piled MO_unitsInRule MO_askThing MO_acts MO_undone MO_laid MO_heards MO_time MO_rooms b_MO_taped b_MO_size b_MO_faultKind b_MO_at b_MO_end b_MO_token b_MO_bank b_MO_rb b_MO_codes b_MO_within b_MO_piled b_MO_unitsInRule b_MO_askThing b_MO_acts b_MO_undone b_MO_laid b_MO_heards b_MO_time sMO_rooms_0_k95) (cwV 0 hts gX12_layWalks_X12_places rfl rfl rfl (by decide +kernel) ⟨Nat.le_of_ble_eq_true rfl, Nat.le_of_ble_eq_true rfl⟩) ⟨xr_blind, va_recv hK hP (ci := 12) (q0 := 0) rfl rfl, fun U hU hW => xr_mk hU hW hPc hK⟩ rfl rfl hl.1 rfl (lv_room (Nat.le_of_ble_eq_true rfl)) dX12_layWalks_97 ⟨Nat.le_of_ble_eq_true rfl, Nat.le_of_ble_eq_true rfl⟩).run (fun r97 hr97 => ?_)
                  obtain ⟨hr97, p97_v, p97_i⟩ := hr97
                  clear hPc
                  refine lv_icmp_ge (tgt := 116) hx hb dX12_layWalks_100 (by decide) (fun c100 => ?_) (fun c100 => ?_)
                  · refine lv_bipush (v := 7) hx hb dX12_layWalks_116 (by decide) ?_
                    have j119 : ∀ (n119 : Nat) (H : Heap) (locs : List Loc) (ls : Array Slot) (v119_2 : Int32) (g119_aMO52 : Nat → Int32) (g119_aMO53 : Nat → Int32) (g119_aMO66 : Nat → Int32), zB v119_2 (-1) 7 → zA MO_rooms 0 2 0 8 → zA MO_creaks 0 16 0 9 → zA MO_doors 0 2 0 12 → zA MO_one 0 24 0 7 → zA MO_other 0 24 0 7 → (v119_2.toInt - (-1) + 1) ≤ (n119 : Int) → va_P D classes [(MO, .inr (12, oX12 aMO MO_taped MO_size MO_faultKind MO_faultPlace MO_at MO_end MO_token MO_number MO_name MO_bank MO_rb MO_codes MO_within MO_piled MO_unitsInRule MO_askThing MO_acts MO_undone MO_laid MO_heards MO_time)), ((aMO 11), .inl (cI, 2, .inl MO_rooms)), ((aMO 59), .inl (cI, 30, .inl MO_hMinute)), ((aMO 63), .inl (cI, 30, .inl MO_hTold)), ((aMO 64), .inl (cI, 30, .inl MO_hUntold)), ((aMO 61), .inl (cI, 30, .inl MO_hRoom)), ((aMO 16), .inl (cI, 16, .inl MO_creaks)), ((aMO 60), .inl (cI, 30, .inl MO_hCreaks)), ((aMO 62), .inl (cI, 30, .inl MO_hIs)), ((aMO 52), .inl (cI, 8, .inl g119_aMO52)), ((aMO 65), .inl (cI, 64, .inl g34_aMO65)), ((aMO 12), .inl (cI, 2, .inl MO_doors)), ((aMO 17), .inl (cI, 24, .inl MO_one)), ((aMO 18), .inl (cI, 24, .inl MO_other)), ((aMO 53), .inl (cI, 8, .inl g119_aMO53)), ((aMO 66), .inl (cI, 64, .inl g119_aMO66))] H → va_D A [(MO, .inr (12, oX12 aMO MO_taped MO_size MO_faultKind MO_faultPlace MO_at MO_end MO_token MO_number MO_name MO_bank MO_rb MO_codes MO_within MO_piled MO_unitsInRule MO_askThing MO_acts MO_undone MO_laid MO_heards MO_time)), ((aMO 11), .inl (cI, 2, .inl MO_rooms)), ((aMO 59), .inl (cI, 30, .inl MO_hMinute)), ((aMO 63), .inl (cI, 30, .inl MO_hTold)), ((aMO 64), .inl (cI, 30, .inl MO_hUntold)), ((aMO 61), .inl (cI, 30, .inl MO_hRoom)), ((aMO 16), .inl (cI, 16, .inl MO_creaks)), ((aMO 60), .inl (cI, 30, .inl MO_hCreaks)), ((aMO 62), .inl (cI, 30, .inl MO_hIs)), ((aMO 52), .inl (cI, 8, .inl g119_aMO52)), ((aMO 65), .inl (cI, 64, .inl g34_aMO65)), ((aMO 12), .inl (cI, 2, .inl MO_doors)), ((aMO 17), .inl (cI, 24, .inl MO_one)), ((aMO 18), .inl (cI, 24, .inl MO_other)), ((aMO 53), .inl (cI, 8, .inl g119_aMO53)), ((aMO 66), .inl (cI, 64, .inl g119_aMO66))] → va_S A s.heap H locs → lv_has ls 4 [(2, .int v119_2), (0, .ref MO), (1, .int x0)] → W p l e ({ frames := 3, cells := 0, slots := 0, locals := 69 } : Room) s m ([.ref MO, .int x0] : List Value).toArray below meth c H locs 0 0 Q (F0 m 119 ls []) := by
                      intro n119
                      induction n119 with
                      | zero => intro H locs ls v119_2 g119_aMO52 g119_aMO53 g119_aMO66 bv119_2_k119 sMO_rooms_0_k119 sMO_creaks_0_k119 sMO_doors_0_k119 sMO_one_0_k119 sMO_other_0_k119 hm119 hP hD hS hl; exact zM_d0 bv119_2_k119 hm119
                      | succ n119 ih119 =>
                        intro H locs ls v119_2 g119_aMO52 g119_aMO53 g119_aMO66 bv119_2_k119 sMO_rooms_0_k119 sMO_creaks_0_k119 sMO_doors_0_k119 sMO_one_0_k119 sMO_other_0_k119 hm119 hP hD hS hl
                        refine lv_iload_n hx hb dX12_layWalks_119 rfl (lv_at hl 0 rfl) ?_
                        refine lv_if_lt (tgt := 196) hx hb dX12_layWalks_120 (by decide) (fun c120 => ?_) (fun c120 => ?_)
                        · have bx120t_v119_2 : zB v119_2 (-1) (-1) := zB_ltu (zl c120) bv119_2_k119 (show zB 0 0 0 from ⟨by decide, by decide⟩) (by decide)
                          exact up _ _ _ (W.vret hx hb hr (fun t ht hW => ⟨⟨(), rfl, trivial, ⟨g119_aMO52, g34_aMO65, g119_aMO53, g119_aMO66, by rw [ht]; exact hP, hD⟩⟩, hS.F ht⟩) hS.2.2 dX12_layWalks_196)
                        · have by120f_v119_2 : zB v119_2 0 7 := zB_lev (zg c120) (show zB 0 0 0 from ⟨by decide, by decide⟩) bv119_2_k119 (by decide)
                          refine lv_iconst (v := 0) hx hb dX12_layWalks_123 (by decide) ?_
                          have j125 : ∀ (n125 : Nat) (H : Heap) (locs : List Loc) (ls : Array Slot) (v125_3 : Int32) (g125_aMO52 : Nat → Int32) (g125_aMO66 : Nat → Int32), zB v125_3 0 8 → zA MO_rooms 0 2 0 8 → zA MO_creaks 0 16 0 9 → zA MO_doors 0 2 0 12 → zA MO_one 0 24 0 7 → zA MO_other 0 24 0 7 → (8 + 1 - v125_3.toInt) ≤ (n125 : Int) → va_P D classes [(MO, .inr (12, oX12 aMO MO_taped MO_size MO_faultKind MO_faultPlace MO_at MO_end MO_token MO_number MO_name MO_bank MO_rb MO_codes MO_within MO_piled MO_unitsInRule MO_askThing MO_acts MO_undone MO_laid MO_heards MO_time)), ((aMO 11), .inl (cI, 2, .inl MO_rooms)), ((aMO 59), .inl (cI, 30, .inl MO_hMinute)), ((aMO 63), .inl (cI, 30, .inl MO_hTold)), ((aMO 64), .inl (cI, 30, .inl MO_hUntold)), ((aMO 61), .inl (cI, 30, .inl MO_hRoom)), ((aMO 16), .inl (cI, 16, .inl MO_creaks)), ((aMO 60), .inl (cI, 30, .inl MO_hCreaks)), ((aMO 62), .inl (cI, 30, .inl MO_hIs)), ((aMO 52), .inl (cI, 8, .inl g125_aMO52)), ((aMO 65), .inl (cI, 64, .inl g34_aMO65)), ((aMO 12), .inl (cI, 2, .inl MO_doors)), ((aMO 17), .inl (cI, 24, .inl MO_one)), ((aMO 18), .inl (cI, 24, .inl MO_other)), ((aMO 53), .inl (cI, 8, .inl g119_aMO53)), ((aMO 66), .inl (cI, 64, .inl g125_aMO66))] H → va_D A [(MO, .inr (12, oX12 aMO MO_taped MO_size MO_faultKind MO_faultPlace MO_at MO_end MO_token MO_number MO_name MO_bank MO_rb MO_codes MO_within MO_piled MO_unitsInRule MO_askThing MO_acts MO_undone MO_laid MO_heards MO_time)), ((aMO 11), .inl (cI, 2, .inl MO_rooms)), ((aMO 59), .inl (cI, 30, .inl MO_hMinute)), ((aMO 63), .inl (cI, 30, .inl MO_hTold)), ((aMO 64), .inl (cI, 30, .inl MO_hUntold)), ((aMO 61), .inl (cI, 30, .inl MO_hRoom)), ((aMO 16), .inl (cI, 16, .inl MO_creaks)), ((aMO 60), .inl (cI, 30, .inl MO_hCreaks)), ((aMO 62), .inl (cI, 30, .inl MO_hIs)), ((aMO 52), .inl (cI, 8, .inl g125_aMO52)), ((aMO 65), .inl (cI, 64, .inl g34_aMO65)), ((aMO 12), .inl (cI, 2, .inl MO_doors)), ((aMO 17), .inl (cI, 24, .inl MO_one)), ((aMO 18), .inl (cI, 24, .inl MO_other)), ((aMO 53), .inl (cI, 8, .inl g119_aMO53)), ((aMO 66), .inl (cI, 64, .inl g125_aMO66))] → va_S A s.heap H locs → lv_has ls 4 [(3, .int v125_3), (2, .int v119_2), (0, .ref MO), (1, .int x0)] → W p l e ({ frames := 3, cells := 0, slots := 0, locals := 69 } : Room) s m ([.ref MO, .int x0] : List Value).toArray below meth c H locs 0 0 Q (F0 m 125 ls []) := by
                            intro n125
                            induction n125 with
                            | zero => intro H locs ls v125_3 g125_aMO52 g125_aMO66 bv125_3_k125 sMO_rooms_0_k125 sMO_creaks_0_k125 sMO_doors_0_k125 sMO_one_0_k125 sMO_other_0_k125 hm125 hP hD hS hl; exact zM_u0 bv125_3_k125 hm125
                            | succ n125 ih125 =>
                              intro H locs ls v125_3 g125_aMO52 g125_aMO66 bv125_3_k125 sMO_rooms_0_k125 sMO_creaks_0_k125 sMO_doors_0_k125 sMO_one_0_k125 sMO_other_0_k125 hm125 hP hD hS hl
                              refine lv_iload_n hx hb dX12_layWalks_125 rfl (lv_at hl 0 rfl) ?_
                              refine lv_aload_n hx hb dX12_layWalks_126 rfl (lv_at hl 2 rfl) ?_
                              have hPc := hP.sub (ws' := [(MO, .inr (12, oX12 aMO MO_taped MO_size MO_faultKind MO_faultPlace MO_at MO_end MO_token MO_number MO_name MO_bank MO_rb MO_codes MO_within MO_piled MO_unitsInRule MO_askThing MO_acts MO_undone MO_laid MO_heards MO_time)), ((aMO 11), .inl (cI, 2, .inl MO_rooms))]) [0, 1] rfl
                              refine vp_callSi (va_runV (As := []) (rest := [.int v125_3]) ⟨hx, hb, hml, hown, hts⟩ (c_X12_places l D cI cB cL cZ cG MO aMO MO_taped MO_size MO_faultKind MO_faultPlace MO_at MO_end MO_token MO_number MO_name MO_bank MO_rb MO_codes MO_within MO_piled MO_unitsInRule MO_askThing MO_acts MO_undone MO_laid MO_heards MO_time MO_rooms b_MO_taped b_MO_size b_MO_faultKind b_MO_at b_MO_end b_MO_token b_MO_bank b_MO_rb b_MO_codes b_MO_within b_MO_piled b_MO_unitsInRule b_MO_askThing b_MO_acts b_MO_undone b_MO_laid b_MO_heards b_MO_time sMO_rooms_0_k125) (cwV 0 hts gX12_layWalks_X12_places rfl rfl rfl (by decide +kernel) ⟨Nat.le_of_ble_eq_true rfl, Nat.le_of_ble_eq_true rfl⟩) ⟨xr_blind, va_recv hK hP (ci := 12) (q0 := 0) rfl rfl, fun U hU hW => xr_mk hU hW hPc hK⟩ rfl rfl hl.1 rfl (lv_room (Nat.le_of_ble_eq_true rfl)) dX12_layWalks_127 ⟨Nat.le_of_ble_eq_true rfl, Nat.le_of_ble_eq_true rfl⟩).run (fun r127 hr127 => ?_)
                              obtain ⟨hr127, p127_v, p127_i⟩ := hr127
                              clear hPc
                              refine lv_icmp_ge (tgt := 185) hx hb dX12_layWalks_130 (by decide) (fun c130 => ?_) (fun c130 => ?_)
                              · refine lv_aload_n hx hb dX12_layWalks_185 rfl (lv_at hl 2 rfl) ?_
                                refine lv_iconst (v := (-1)) hx hb dX12_layWalks_186 (by decide) ?_
                                have hPc := hP.sub (ws' := [(MO, .inr (12, oX12 aMO MO_taped MO_size MO_faultKind MO_faultPlace MO_at MO_end MO_token MO_number MO_name MO_bank MO_rb MO_codes MO_within MO_piled MO_unitsInRule MO_askThing MO_acts MO_undone MO_laid MO_heards MO_time)), ((aMO 11), .inl (cI, 2, .inl MO_rooms)), ((aMO 12), .inl (cI, 2, .inl MO_doors)), ((aMO 17), .inl (cI, 24, .inl MO_one)), ((aMO 18), .inl (cI, 24, .inl MO_other)), ((aMO 53), .inl (cI, 8, .inl g119_aMO53)), ((aMO 52), .inl (cI, 8, .inl g125_aMO52))]) [0, 1, 11, 12, 13, 14, 9] rfl
                                have hDc := hD.sub (ws' := [(MO, .inr (12, oX12 aMO MO_taped MO_size MO_faultKind MO_faultPlace MO_at MO_end MO_token MO_number MO_name MO_bank MO_rb MO_codes MO_within MO_piled MO_unitsInRule MO_askThing MO_acts MO_undone MO_laid MO_heards MO_time)), ((aMO 11), .inl (cI, 2, .inl MO_rooms)), ((aMO 12), .inl (cI, 2, .inl MO_doors)), ((aMO 17), .inl (cI, 24, .inl MO_one)), ((aMO 18), .inl (cI, 24, .inl MO_other)), ((aMO 53), .inl (cI, 8, .inl g119_aMO53)), ((aMO 52), .inl (cI, 8, .inl g125_aMO52))]) [0, 1, 11, 12, 13, 14, 9] (by decide) rfl
                                have hFc := va_free (wc := [(MO, .inr (12, oX12 aMO MO_taped MO_size MO_faultKind MO_faultPlace MO_at MO_end MO_token MO_number MO_name MO_bank MO_rb MO_codes MO_within MO_piled MO_unitsInRule MO_askThing MO_acts MO_undone MO_laid MO_heards MO_time)), ((aMO 11), .inl (cI, 2, .inl MO_rooms)), ((aMO 12), .inl (cI, 2, .inl MO_doors)), ((aMO 17), .inl (cI, 24, .inl MO_one)), ((aMO 18), .inl (cI, 24, .inl MO_other)), ((aMO 53), .inl (cI, 8, .inl g119_aMO53)), ((aMO 52), .inl (cI, 8, .inl g125_aMO52))]) hD hS hA [0, 1, 11, 12, 13, 14, 9] rfl
                                refine va_callv (va_runV (As := [.int (-1)]) (rest := []) ⟨hx, hb, hml, hown, hts⟩ (c_X12_stepOn l D cI cB cL cZ cG MO (-1) aMO MO_taped MO_size MO_faultKind MO_faultPlace MO_at MO_end MO_token MO_number MO_name MO_bank MO_rb MO_codes MO_within MO_piled MO_unitsInRule MO_askThing MO_acts MO_undone MO_laid MO_heards MO_time MO_rooms MO_doors MO_one MO_other g119_aMO53 g125_aMO52 H.size b_MO_taped b_MO_size b_MO_faultKind b_MO_at b_MO_end b_MO_token b_MO_bank b_MO_rb b_MO_codes b_MO_within b_MO_piled b_MO_unitsInRule b_MO_askThing b_MO_acts b_MO_undone b_MO_laid b_MO_heards b_MO_time sMO_rooms_0_k125 sMO_doors_0_k125 sMO_one_0_k125 sMO_other_0_k125) (cwV 1 hts gX12_layWalks_X12_stepOn rfl rfl rfl (by decide +kernel) ⟨Nat.le_of_ble_eq_true rfl, Nat.le_of_ble_eq_true rfl⟩) ⟨xp_blind, va_recv hK hP (ci := 12) (q0 := 0) rfl rfl, fun U hU hW => xp_mk hU hW hPc hK hDc xNw_nil⟩ rfl rfl hl.1 rfl (lv_room (Nat.le_of_ble_eq_true rfl)) dX12_layWalks_187 ⟨Nat.le_of_ble_eq_true rfl, Nat.le_of_ble_eq_true rfl⟩) hS (fun q _ h => hFc q h) hFc (fun u9 t9 H1 locs ht9 hvm9 hr187 hB9 hz9 hk9 hS => ?_)
                                obtain ⟨o187_nMOwaysThen, o187_nMOwaysTo, hP1, hD1⟩ := hB9
                                rw [ht9] at hP1
                                obtain ⟨hP, hD⟩ := va_join (wr := [((aMO 59), .inl (cI, 30, .inl MO_hMinute)), ((aMO 63), .inl (cI, 30, .inl MO_hTold)), ((aMO 64), .inl (cI, 30, .inl MO_hUntold)), ((aMO 61), .inl (cI, 30, .inl MO_hRoom)), ((aMO 16), .inl (cI, 16, .inl MO_creaks)), ((aMO 60), .inl (cI, 30, .inl MO_hCreaks)), ((aMO 62), .inl (cI, 30, .inl MO_hIs)), ((aMO 65), .inl (cI, 64, .inl g34_aMO65)), ((aMO 66), .inl (cI, 64, .inl g125_aMO66))]) (w1 := [(MO, .inr (12, oX12 aMO MO_taped MO_size MO_faultKind MO_faultPlace MO_at MO_end MO_token MO_number MO_name MO_bank MO_rb MO_codes MO_within MO_piled MO_unitsInRule MO_askThing MO_acts MO_undone MO_laid MO_heards MO_time)), ((aMO 11), .inl (cI, 2, .inl MO_rooms)), ((aMO 12), .inl (cI, 2, .inl MO_doors)), ((aMO 17), .inl (cI, 24, .inl MO_one)), ((aMO 18), .inl (cI, 24, .inl MO_other)), ((aMO 53), .inl (cI, 8, .inl o187_nMOwaysThen)), ((aMO 52), .inl (cI, 8, .inl o187_nMOwaysTo))]) hP hD [0, 1, 11, 12, 13, 14, 9] [2, 3, 4, 5, 6, 7, 8, 10, 15] rfl rfl (by decide) (by decide) hk9 hFc hP1 hD1
                                clear hz9 hPc hDc hP1 hD1 hk9 hFc ht9 hvm9 u9 t9
                                generalize H1 = H at hP hS ⊢
                                replace hP : va_P D classes [(MO, .inr (12, oX12 aMO MO_taped MO_size MO_faultKind MO_faultPlace MO_at MO_end MO_token MO_number MO_name MO_bank MO_rb MO_codes MO_within MO_piled MO_unitsInRule MO_askThing MO_acts MO_undone MO_laid MO_heards MO_time)), ((aMO 11), .inl (cI, 2, .inl MO_rooms)), ((aMO 59), .inl (cI, 30, .inl MO_hMinute)), ((aMO 63), .inl (cI, 30, .inl MO_hTold)), ((aMO 64), .inl (cI, 30, .inl MO_hUntold)), ((aMO 61), .inl (cI, 30, .inl MO_hRoom)), ((aMO 16), .inl (cI, 16, .inl MO_creaks)), ((aMO 60), .inl (cI, 30, .inl MO_hCreaks)), ((aMO 62), .inl (cI, 30, .inl MO_hIs)), ((aMO 52), .inl (cI, 8, .inl o187_nMOwaysTo)), ((aMO 65), .inl (cI, 64, .inl g34_aMO65)), ((aMO 12), .inl (cI, 2, .inl MO_doors)), ((aMO 17), .inl (cI, 24, .inl MO_one)), ((aMO 18), .inl (cI, 24, .inl MO_other)), ((aMO 53), .inl (cI, 8, .inl o187_nMOwaysThen)), ((aMO 66), .inl (cI, 64, .inl g125_aMO66))] H := hP.sub [9, 10, 0, 1, 2, 3, 4, 5, 6, 15, 7, 11, 12, 13, 14, 8] rfl
                                replace hD : va_D A [(MO, .inr (12, oX12 aMO MO_taped MO_size MO_faultKind MO_faultPlace MO_at MO_end MO_token MO_number MO_name MO_bank MO_rb MO_codes MO_within MO_piled MO_unitsInRule MO_askThing MO_acts MO_undone MO_laid MO_heards MO_time)), ((aMO 11), .inl (cI, 2, .inl MO_rooms)), ((aMO 59), .inl (cI, 30, .inl MO_hMinute)), ((aMO 63), .inl (cI, 30, .inl MO_hTold)), ((aMO 64), .inl (cI, 30, .inl MO_hUntold)), ((aMO 61), .inl (cI, 30, .inl MO_hRoom)), ((aMO 16), .inl (cI, 16, .inl MO_creaks)), ((aMO 60), .inl (cI, 30, .inl MO_hCreaks)), ((aMO 62), .inl (cI, 30, .inl MO_hIs)), ((aMO 52), .inl (cI, 8, .inl o187_nMOwaysTo)), ((aMO 65), .inl (cI, 64, .inl g34_aMO65)), ((aMO 12), .inl (cI, 2, .inl MO_doors)), ((aMO 17), .inl (cI, 24, .inl MO_one)), ((aMO 18), .inl (cI, 24, .inl MO_other)), ((aMO 53), .inl (cI, 8, .inl o187_nMOwaysThen)), ((aMO 66), .inl (cI, 64, .inl g125_aMO66))] := hD.sub [9, 10, 0, 1, 2, 3, 4, 5, 6, 15, 7, 11, 12, 13, 14, 8] (by decide) rfl
                                obtain ⟨y190, by190, ry190, ey190⟩ := zi_inc (x := v119_2) (k := (-1)) (a := (-1)) (b := 6) by120f_v119_2 (by decide) (by decide) (by decide) (by decide) (by decide)
                                refine lv_iinc (v := y190) (lv' := [(2, .int y190), (3, .int v125_3), (0, .ref MO), (1, .int x0)]) hx hb dX12_layWalks_190 hl (k := 1) rfl ey190 (by decide) rfl (fun ls hl => ?_)
                                refine lv_goto (tgt := 119) hx hb dX12_layWalks_193 (by decide) ?_
                                exact ih119 H locs ls y190 o187_nMOwaysTo o187_nMOwaysThen g125_aMO66 (zB_w by190 (by decide) (by decide)) sMO_rooms_0_k125 sMO_creaks_0_k125 sMO_doors_0_k125 sMO_one_0_k125 sMO_other_0_k125 (zM_ds (k := 1) hm119 ry190 (by decide)) hP hD hS (lv_sub hl [0, 2, 3] rfl)
                              · have bx130f_v125_3 : zB v125_3 0 7 := zB_ltu (zf c130) bv125_3_k125 hr127 (by decide)
                                have by130f_r127 : zB r127 1 8 := zB_ltv (zf c130) bx130f_v125_3 hr127 (by decide)
                                refine lv_aload_n hx hb dX12_layWalks_133 rfl (lv_at hl 2 rfl) ?_
                                refine va_get (D := D) (ci := 12) (v := .ref (aMO 66)) (C := RX12) (T := TX12) (N := 71) hx hb hts iw_X12_layWalks_X12 hown hK hP 0 rfl rfl 66 (by decide) (hts (.fieldLink RX12 158 "SoldHouseModel" "waysOn" "[I") (List.mem_of_getElem? (i := 3) rfl)) (fun _ h9 => h9) rfl dX12_layWalks_134 ?_
                                refine lv_bipush (v := 8) hx hb dX12_layWalks_137 (by decide) ?_
                                refine lv_iload_n hx hb dX12_layWalks_139 rfl (lv_at hl 1 rfl) ?_
                                refine lv_imul hx hb dX12_layWalks_140 ?_
                                refine zi_top (a := 0) (b := 56) (zB_mul (show zB 8 8 8 from ⟨by decide, by decide⟩) by120f_v119_2 (by decide) (by decide) (by decide) (by decide) (by decide)) (fun y140 by140 => ?_)
                                refine lv_iload_n hx hb dX12_layWalks_141 rfl (lv_at hl 0 rfl) ?_
                                refine lv_iadd hx hb dX12_layWalks_142 ?_
                                refine zi_top (a := 0) (b := 63) (zB_add by140 bx130f_v125_3 (by decide) (by decide) (by decide) (by decide)) (fun y142 by142 => ?_)
                                refine lv_aload_n hx hb dX12_layWalks_143 rfl (lv_at hl 2 rfl) ?_
                                refine va_get (D := D) (ci := 12) (v := .ref (aMO 52)) (C := RX12) (T := TX12) (N := 71) hx hb hts iw_X12_layWalks_X12 hown hK hP 0 rfl rfl 52 (by decide) (hts (.fieldLink RX12 116 "SoldHouseModel" "waysTo" "[I") (List.mem_of_getElem? (i := 1) rfl)) (fun _ h9 => h9) rfl dX12_layWalks_144 ?_
                                refine lv_iload_n hx hb dX12_layWalks_147 rfl (lv_at hl 0 rfl) ?_
                                refine va_iald hx hb hK hP 9 0 rfl rfl (zB_in bx130f_v125_3 (by decide) (by decide)) dX12_layWalks_148 ?_
                                refine lv_topi (fun y148 _ => ?_)
                                refine zi_iast hx hb hK hP hD hS 15 0 rfl rfl (zB_in by142 (by decide) (by decide)) dX12_layWalks_149 (fun H locs g149 eg149 hP hD hS => ?_)
                                replace hP : va_P D classes [(MO, .inr (12, oX12 aMO MO_taped MO_size MO_faultKind MO_faultPlace MO_at MO_end MO_token MO_number MO_name MO_bank MO_rb MO_codes MO_within MO_piled MO_unitsInRule MO_askThing MO_acts MO_undone MO_laid MO_heards MO_time)), ((aMO 11), .inl (cI, 2, .inl MO_rooms)), ((aMO 59), .inl (cI, 30, .inl MO_hMinute)), ((aMO 63), .inl (cI, 30, .inl MO_hTold)), ((aMO 64), .inl (cI, 30, .inl MO_hUntold)), ((aMO 61), .inl (cI, 30, .inl MO_hRoom)), ((aMO 16), .inl (cI, 16, .inl MO_creaks)), ((aMO 60), .inl (cI, 30, .inl MO_hCreaks)), ((aMO 62), .inl (cI, 30, .inl MO_hIs)), ((aMO 52), .inl (cI, 8, .inl g125_aMO52)), ((aMO 65), .inl (cI, 64, .inl g34_aMO65)), ((aMO 12), .inl (cI, 2, .inl MO_doors)), ((aMO 17), .inl (cI, 24, .inl MO_one)), ((aMO 18), .inl (cI, 24, .inl MO_other)), ((aMO 53), .inl (cI, 8, .inl g119_aMO53)), ((aMO 66), .inl (cI, 64, .inl g149))] H := hP
                                replace hD : va_D A [(MO, .inr (12, oX12 aMO MO_taped MO_size MO_faultKind MO_faultPlace MO_at MO_end MO_token MO_number MO_name MO_bank MO_rb MO_codes MO_within MO_piled MO_unitsInRule MO_askThing MO_acts MO_undone MO_laid MO_heards MO_time)), ((aMO 11), .inl (cI, 2, .inl MO_rooms)), ((aMO 59), .inl (cI, 30, .inl MO_hMinute)), ((aMO 63), .inl (cI, 30, .inl MO_hTold)), ((aMO 64), .inl (cI, 30, .inl MO_hUntold)), ((aMO 61), .inl (cI, 30, .inl MO_hRoom)), ((aMO 16), .inl (cI, 16, .inl MO_creaks)), ((aMO 60), .inl (cI, 30, .inl MO_hCreaks)), ((aMO 62), .inl (cI, 30, .inl MO_hIs)), ((aMO 52), .inl (cI, 8, .inl g125_aMO52)), ((aMO 65), .inl (cI, 64, .inl g34_aMO65)), ((aMO 12), .inl (cI, 2, .inl MO_doors)), ((aMO 17), .inl (cI, 24, .inl MO_one)), ((aMO 18), .inl (cI, 24, .inl MO_other)), ((aMO 53), .inl (cI, 8, .inl g119_aMO53)), ((aMO 66), .inl (cI, 64, .inl g149))] := hD
                                clear eg149
                                refine lv_aload_n hx hb dX12_layWalks_150 rfl (lv_at hl 2 rfl) ?_
                                refine va_get (D := D) (ci := 12) (v := .ref (aMO 52)) (C := RX12) (T := TX12) (N := 71) hx hb hts iw_X12_layWalks_X12 hown hK hP 0 rfl rfl 52 (by decide) (hts (.fieldLink RX12 116 "SoldHouseModel" "waysTo" "[I") (List.mem_of_getElem? (i := 1) rfl)) (fun _ h9 => h9) rfl dX12_layWalks_151 ?_
                                refine lv_iload_n hx hb dX12_layWalks_154 rfl (lv_at hl 0 rfl) ?_
                                refine lv_aload_n hx hb dX12_layWalks_155 rfl (lv_at hl 2 rfl) ?_
                                refine lv_iload_n hx hb dX12_layWalks_156 rfl (lv_at hl 1 rfl) ?_
                                refine lv_iload_n hx hb dX12_layWalks_157 rfl (lv_at hl 3 rfl) ?_
                                have hPc := hP.sub (ws' := [(MO, .inr (12, oX12 aMO MO_taped MO_size MO_faultKind MO_faultPlace MO_at MO_end MO_token MO_number MO_name MO_bank MO_rb MO_codes MO_within MO_piled MO_unitsInRule MO_askThing MO_acts MO_undone MO_laid MO_heards MO_time)), ((aMO 11), .inl (cI, 2, .inl MO_rooms)), ((aMO 59), .inl (cI, 30, .inl MO_hMinute)), ((aMO 63), .inl (cI, 30, .inl MO_hTold)), ((aMO 64), .inl (cI, 30, .inl MO_hUntold)), ((aMO 61), .inl (cI, 30, .inl MO_hRoom)), ((aMO 16), .inl (cI, 16, .inl MO_creaks)), ((aMO 60), .inl (cI, 30, .inl MO_hCreaks)), ((aMO 62), .inl (cI, 30, .inl MO_hIs))]) [0, 1, 2, 3, 4, 5, 6, 7, 8] rfl
                                refine vp_callSi (va_runV (As := [.int v119_2, .int x0]) (rest := [.int v125_3, .ref (aMO 52)]) ⟨hx, hb, hml, hown, hts⟩ (c_X12_openAt l D cI cB cL cZ cG MO v119_2 x0 aMO MO_taped MO_size MO_faultKind MO_faultPlace MO_at MO_end MO_token MO_number MO_name MO_bank MO_rb MO_codes MO_within MO_piled MO_unitsInRule MO_askThing MO_acts MO_undone MO_laid MO_heards MO_time MO_rooms MO_hMinute MO_hTold MO_hUntold MO_hRoom MO_creaks MO_hCreaks MO_hIs b_MO_taped b_MO_size b_MO_faultKind b_MO_at b_MO_end b_MO_token b_MO_bank b_MO_rb b_MO_codes b_MO_within b_MO_piled b_MO_unitsInRule b_MO_askThing b_MO_acts b_MO_undone b_MO_laid b_MO_heards b_MO_time sMO_rooms_0_k125 sMO_creaks_0_k125) (cwV 2 hts gX12_layWalks_X12_openAt rfl rfl rfl (by decide +kernel) ⟨Nat.le_of_ble_eq_true rfl, Nat.le_of_ble_eq_true rfl⟩) ⟨xr_blind, va_recv hK hP (ci := 12) (q0 := 0) rfl rfl, fun U hU hW => xr_mk hU hW hPc hK⟩ rfl rfl hl.1 rfl (lv_room (Nat.le_of_ble_eq_true rfl)) dX12_layWalks_158 ⟨Nat.le_of_ble_eq_true rfl, Nat.le_of_ble_eq_true rfl⟩).run (fun r158 hr158 => ?_)
                                clear hPc
                                refine lv_iload_n hx hb dX12_layWalks_161 rfl (lv_at hl 0 rfl) ?_
                                have hPc := hP.sub (ws' := []) [] rfl
                                refine vp_callSi (va_runS (As := [.int r158, .int v125_3]) (rest := [.int v125_3, .ref (aMO 52)]) ⟨hx, hb, hml, hown, hts⟩ (c_X12_has l D cI cB cL cZ cG r158 v125_3) (va_cwS 2 hts gX12_layWalks_X12_has rfl rfl rfl (by decide +kernel) ⟨Nat.le_of_ble_eq_true rfl, Nat.le_of_ble_eq_true rfl⟩) ⟨xr_blind, fun U hU hW => xr_mk hU hW hPc hK⟩ rfl rfl hl.1 rfl (lv_room (Nat.le_of_ble_eq_true rfl)) dX12_layWalks_162 ⟨Nat.le_of_ble_eq_true rfl, Nat.le_of_ble_eq_true rfl⟩).run (fun r162 hr162 => ?_)
                                obtain ⟨hr162, p162_t, p162_f⟩ := hr162
                                clear hPc
                                rcases hr162 with rfl | rfl
                                · have j178 : ∀ (H : Heap) (locs : List Loc) (ls : Array Slot) (u178_0 : Int32), zA MO_rooms 0 2 0 8 → zA MO_creaks 0 16 0 9 → zA MO_doors 0 2 0 12 → zA MO_one 0 24 0 7 → zA MO_other 0 24 0 7 → va_P D classes [(MO, .inr (12, oX12 aMO MO_taped MO_size MO_faultKind MO_faultPlace MO_at MO_end MO_token MO_number MO_name MO_bank MO_rb MO_codes MO_within MO_piled MO_unitsInRule MO_askThing MO_acts MO_undone MO_laid MO_heards MO_time)), ((aMO 11), .inl (cI, 2, .inl MO_rooms)), ((aMO 59), .inl (cI, 30, .inl MO_hMinute)), ((aMO 63), .inl (cI, 30, .inl MO_hTold)), ((aMO 64), .inl (cI, 30, .inl MO_hUntold)), ((aMO 61), .inl (cI, 30, .inl MO_hRoom)), ((aMO 16), .inl (cI, 16, .inl MO_creaks)), ((aMO 60), .inl (cI, 30, .inl MO_hCreaks)), ((aMO 62), .inl (cI, 30, .inl MO_hIs)), ((aMO 52), .inl (cI, 8, .inl g125_aMO52)), ((aMO 65), .inl (cI, 64, .inl g34_aMO65)), ((aMO 12), .inl (cI, 2, .inl MO_doors)), ((aMO 17), .inl (cI, 24, .inl MO_one)), ((aMO 18), .inl (cI, 24, .inl MO_other)), ((aMO 53), .inl (cI, 8, .inl g119_aMO53)), ((aMO 66), .inl (cI, 64, .inl g149))] H → va_D A [(MO, .inr (12, oX12 aMO MO_taped MO_size MO_faultKind MO_faultPlace MO_at MO_end MO_token MO_number MO_name MO_bank MO_rb MO_codes MO_within MO_piled MO_unitsInRule MO_askThing MO_acts MO_undone MO_laid MO_heards MO_time)), ((aMO 11), .inl (cI, 2, .inl MO_rooms)), ((aMO 59), .inl (cI, 30, .inl MO_hMinute)), ((aMO 63), .inl (cI, 30, .inl MO_hTold)), ((aMO 64), .inl (cI, 30, .inl MO_hUntold)), ((aMO 61), .inl (cI, 30, .inl MO_hRoom)), ((aMO 16), .inl (cI, 16, .inl MO_creaks)), ((aMO 60), .inl (cI, 30, .inl MO_hCreaks)), ((aMO 62), .inl (cI, 30, .inl MO_hIs)), ((aMO 52), .inl (cI, 8, .inl g125_aMO52)), ((aMO 65), .inl (cI, 64, .inl g34_aMO65)), ((aMO 12), .inl (cI, 2, .inl MO_doors)), ((aMO 17), .inl (cI, 24, .inl MO_one)), ((aMO 18), .inl (cI, 24, .inl MO_other)), ((aMO 53), .inl (cI, 8, .inl g119_aMO53)), ((aMO 66), .inl (cI, 64, .inl g149))] → va_S A s.heap H locs → lv_has ls 4 [(3, .int v125_3), (2, .int v119_2), (0, .ref MO), (1, .int x0)] → W p l e ({ frames := 3, cells := 0, slots := 0, locals := 69 } : Room) s m ([.ref MO, .int x0] : List Value).toArray below meth c H locs 0 0 Q (F0 m 178 ls [.int u178_0, .int v125_3, .ref (aMO 52)]) := by
                                    intro H locs ls u178_0 sMO_rooms_0_k178 sMO_creaks_0_k178 sMO_doors_0_k178 sMO_one_0_k178 sMO_other_0_k178 hP hD hS hl
                                    refine zi_iast hx hb hK hP hD hS 9 0 rfl rfl (zB_in bx130f_v125_3 (by decide) (by decide)) dX12_layWalks_178 (fun H locs g178 eg178 hP hD hS => ?_)
                                    replace hP : va_P D classes [(MO, .inr (12, oX12 aMO MO_taped MO_size MO_faultKind MO_faultPlace MO_at MO_end MO_token MO_number MO_name MO_bank MO_rb MO_codes MO_within MO_piled MO_unitsInRule MO_askThing MO_acts MO_undone MO_laid MO_heards MO_time)), ((aMO 11), .inl (cI, 2, .inl MO_rooms)), ((aMO 59), .inl (cI, 30, .inl MO_hMinute)), ((aMO 63), .inl (cI, 30, .inl MO_hTold)), ((aMO 64), .inl (cI, 30, .inl MO_hUntold)), ((aMO 61), .inl (cI, 30, .inl MO_hRoom)), ((aMO 16), .inl (cI, 16, .inl MO_creaks)), ((aMO 60), .inl (cI, 30, .inl MO_hCreaks)), ((aMO 62), .inl (cI, 30, .inl MO_hIs)), ((aMO 52), .inl (cI, 8, .inl g178)), ((aMO 65), .inl (cI, 64, .inl g34_aMO65)), ((aMO 12), .inl (cI, 2, .inl MO_doors)), ((aMO 17), .inl (cI, 24, .inl MO_one)), ((aMO 18), .inl (cI, 24, .inl MO_other)), ((aMO 53), .inl (cI, 8, .inl g119_aMO53)), ((aMO 66), .inl (cI, 64, .inl g149))] H := hP
                                    replace hD : va_D A [(MO, .inr (12, oX12 aMO MO_taped MO_size MO_faultKind MO_faultPlace MO_at MO_end MO_token MO_number MO_name MO_bank MO_rb MO_codes MO_within MO_piled MO_unitsInRule MO_askThing MO_acts MO_undone MO_laid MO_heards MO_time)), ((aMO 11), .inl (cI, 2, .inl MO_rooms)), ((aMO 59), .inl (cI, 30, .inl MO_hMinute)), ((aMO 63), .inl (cI, 30, .inl MO_hTold)), ((aMO 64), .inl (cI, 30, .inl MO_hUntold)), ((aMO 61), .inl (cI, 30, .inl MO_hRoom)), ((aMO 16), .inl (cI, 16, .inl MO_creaks)), ((aMO 60), .inl (cI, 30, .inl MO_hCreaks)), ((aMO 62), .inl (cI, 30, .inl MO_hIs)), ((aMO 52), .inl (cI, 8, .inl g178)), ((aMO 65), .inl (cI, 64, .inl g34_aMO65)), ((aMO 12), .inl (cI, 2, .inl MO_doors)), ((aMO 17), .inl (cI, 24, .inl MO_one)), ((aMO 18), .inl (cI, 24, .inl MO_other)), ((aMO 53), .inl (cI, 8, .inl g119_aMO53)), ((aMO 66), .inl (cI, 64, .inl g149))] := hD
                                    clear eg178
                                    obtain ⟨y179, by179, ry179, ey179⟩ := zi_inc (x := v125_3) (k := 1) (a := 1) (b := 8) bx130f_v125_3 (by decide) (by decide) (by decide) (by decide) (by decide)
                                    refine lv_iinc (v := y179) (lv' := [(3, .int y179), (2, .int v119_2), (0, .ref MO), (1, .int x0)]) hx hb dX12_layWalks_179 hl (k := 0) rfl ey179 (by decide) rfl (fun ls hl => ?_)
                                    refine lv_goto (tgt := 125) hx hb dX12_layWalks_182 (by decide) ?_
                                    exact ih125 H locs ls y179 g178 g149 (zB_w by179 (by decide) (by decide)) sMO_rooms_0_k178 sMO_creaks_0_k178 sMO_doors_0_k178 sMO_one_0_k178 sMO_other_0_k178 (zM_us (k := 1) hm125 ry179 (by decide)) hP hD hS (lv_sub hl [0, 1, 2, 3] rfl)
                                  refine lv_if_eq (tgt := 177) hx hb dX12_layWalks_165 (by decide) (fun _ => ?_) (fun c165 => absurd (by decide) c165)
                                  refine lv_iconst (v := 0) hx hb dX12_layWalks_177 (by decide) ?_
                                  exact j178 H locs ls 0 sMO_rooms_0_k125 sMO_creaks_0_k125 sMO_doors_0_k125 sMO_one_0_k125 sMO_other_0_k125 hP hD hS (lv_sub hl [0, 1, 2, 3] rfl)
                                · have j178 : ∀ (H : Heap) (locs : List Loc) (ls : Array Slot) (u178_0 : Int32), zA MO_rooms 0 2 0 8 → zA MO_creaks 0 16 0 9 → zA MO_doors 0 2 0 12 → zA MO_one 0 24 0 7 → zA MO_other 0 24 0 7 → va_P D classes [(MO, .inr (12, oX12 aMO MO_taped MO_size MO_faultKind MO_faultPlace MO_at MO_end MO_token MO_number MO_name MO_bank MO_rb MO_codes MO_within MO_piled MO_unitsInRule MO_askThing MO_acts MO_undone MO_laid MO_heards MO_time)), ((aMO 11), .inl (cI, 2, .inl MO_rooms)), ((aMO 59), .inl (cI, 30, .inl MO_hMinute)), ((aMO 63), .inl (cI, 30, .inl MO_hTold)), ((aMO 64), .inl (cI, 30, .inl MO_hUntold)), ((aMO 61), .inl (cI, 30, .inl MO_hRoom)), ((aMO 16), .inl (cI, 16, .inl MO_creaks)), ((aMO 60), .inl (cI, 30, .inl MO_hCreaks)), ((aMO 62), .inl (cI, 30, .inl MO_hIs)), ((aMO 52), .inl (cI, 8, .inl g125_aMO52)), ((aMO 65), .inl (cI, 64, .inl g34_aMO65)), ((aMO 12), .inl (cI, 2, .inl MO_doors)), ((aMO 17), .inl (cI, 24, .inl MO_one)), ((aMO 18), .inl (cI, 24, .inl MO_other)), ((aMO 53), .inl (cI, 8, .inl g119_aMO53)), ((aMO 66), .inl (cI, 64, .inl g149))] H → va_D A [(MO, .inr (12, oX12 aMO MO_taped MO_size MO_faultKind MO_faultPlace MO_at MO_end MO_token MO_number MO_name MO_bank MO_rb MO_codes MO_within MO_piled MO_unitsInRule MO_askThing MO_acts MO_undone MO_laid MO_heards MO_time)), ((aMO 11), .inl (cI, 2, .inl MO_rooms)), ((aMO 59), .inl (cI, 30, .inl MO_hMinute)), ((aMO 63), .inl (cI, 30, .inl MO_hTold)), ((aMO 64), .inl (cI, 30, .inl MO_hUntold)), ((aMO 61), .inl (cI, 30, .inl MO_hRoom)), ((aMO 16), .inl (cI, 16, .inl MO_creaks)), ((aMO 60), .inl (cI, 30, .inl MO_hCreaks)), ((aMO 62), .inl (cI, 30, .inl MO_hIs)), ((aMO 52), .inl (cI, 8, .inl g125_aMO52)), ((aMO 65), .inl (cI, 64, .inl g34_aMO65)), ((aMO 12), .inl (cI, 2, .inl MO_doors)), ((aMO 17), .inl (cI, 24, .inl MO_one)), ((aMO 18), .inl (cI, 24, .inl MO_other)), ((aMO 53), .inl (cI, 8, .inl g119_aMO53)), ((aMO 66), .inl (cI, 64, .inl g149))] → va_S A s.heap H locs → lv_has ls 4 [(3, .int v125_3), (2, .int v119_2), (0, .ref MO), (1, .int x0)] → W p l e ({ frames := 3, cells := 0, slots := 0, locals := 69 } : Room) s m ([.ref MO, .int x0] : List Value).toArray below meth c H locs 0 0 Q (F0 m 178 ls [.int u178_0, .int v125_3, .ref (aMO 52)]) := by
                                    intro H locs ls u178_0 sMO_rooms_0_k178 sMO_creaks_0_k178 sMO_doors_0_k178 sMO_one_0_k178 sMO_other_0_k178 hP hD hS hl
                                    refine zi_iast hx hb hK hP hD hS 9 0 rfl rfl (zB_in bx130f_v125_3 (by decide) (by decide)) dX12_layWalks_178 (fun H locs g178 eg178 hP hD hS => ?_)
                                    replace hP : va_P D classes [(MO, .inr (12, oX12 aMO MO_taped MO_size MO_faultKind MO_faultPlace MO_at MO_end MO_token MO_number MO_name MO_bank MO_rb MO_codes MO_within MO_piled MO_unitsInRule MO_askThing MO_acts MO_undone MO_laid MO_heards MO_time)), ((aMO 11), .inl (cI, 2, .inl MO_rooms)), ((aMO 59), .inl (cI, 30, .inl MO_hMinute)), ((aMO 63), .inl (cI, 30, .inl MO_hTold)), ((aMO 64), .inl (cI, 30, .inl MO_hUntold)), ((aMO 61), .inl (cI, 30, .inl MO_hRoom)), ((aMO 16), .inl (cI, 16, .inl MO_creaks)), ((aMO 60), .inl (cI, 30, .inl MO_hCreaks)), ((aMO 62), .inl (cI, 30, .inl MO_hIs)), ((aMO 52), .inl (cI, 8, .inl g178)), ((aMO 65), .inl (cI, 64, .inl g34_aMO65)), ((aMO 12), .inl (cI, 2, .inl MO_doors)), ((aMO 17), .inl (cI, 24, .inl MO_one)), ((aMO 18), .inl (cI, 24, .inl MO_other)), ((aMO 53), .inl (cI, 8, .inl g119_aMO53)), ((aMO 66), .inl (cI, 64, .inl g149))] H := hP
                                    replace hD : va_D A [(MO, .inr (12, oX12 aMO MO_taped MO_size MO_faultKind MO_faultPlace MO_at MO_end MO_token MO_number MO_name MO_bank MO_rb MO_codes MO_within MO_piled MO_unitsInRule MO_askThing MO_acts MO_undone MO_laid MO_heards MO_time)), ((aMO 11), .inl (cI, 2, .inl MO_rooms)), ((aMO 59), .inl (cI, 30, .inl MO_hMinute)), ((aMO 63), .inl (cI, 30, .inl MO_hTold)), ((aMO 64), .inl (cI, 30, .inl MO_hUntold)), ((aMO 61), .inl (cI, 30, .inl MO_hRoom)), ((aMO 16), .inl (cI, 16, .inl MO_creaks)), ((aMO 60), .inl (cI, 30, .inl MO_hCreaks)), ((aMO 62), .inl (cI, 30, .inl MO_hIs)), ((aMO 52), .inl (cI, 8, .inl g178)), ((aMO 65), .inl (cI, 64, .inl g34_aMO65)), ((aMO 12), .inl (cI, 2, .inl MO_doors)), ((aMO 17), .inl (cI, 24, .inl MO_one)), ((aMO 18), .inl (cI, 24, .inl MO_other)), ((aMO 53), .inl (cI, 8, .inl g119_aMO53)), ((aMO 66), .inl (cI, 64, .inl g149))] := hD
                                    clear eg178
                                    obtain ⟨y179, by179, ry179, ey179⟩ := zi_inc (x := v125_3) (k := 1) (a := 1) (b := 8) bx130f_v125_3 (by decide) (by decide) (by decide) (by decide) (by decide)
                                    refine lv_iinc (v := y179) (lv' := [(3, .int y179), (2, .int v119_2), (0, .ref MO), (1, .int x0)]) hx hb dX12_layWalks_179 hl (k := 0) rfl ey179 (by decide) rfl (fun ls hl => ?_)
                                    refine lv_goto (tgt := 125) hx hb dX12_layWalks_182 (by decide) ?_
                                    exact ih125 H locs ls y179 g178 g149 (zB_w by179 (by decide) (by decide)) sMO_rooms_0_k178 sMO_creaks_0_k178 sMO_doors_0_k178 sMO_one_0_k178 sMO_other_0_k178 (zM_us (k := 1) hm125 ry179 (by decide)) hP hD hS (lv_sub hl [0, 1, 2, 3] rfl)
                                  refine lv_if_eq (tgt := 177) hx hb dX12_layWalks_165 (by decide) (fun c165 => absurd c165 (by decide)) (fun _ => ?_)
                                  refine lv_aload_n hx hb dX12_layWalks_168 rfl (lv_at hl 2 rfl) ?_
                                  refine va_get (D := D) (ci := 12) (v := .ref (aMO 52)) (C := RX12) (T := TX12) (N := 71) hx hb hts iw_X12_layWalks_X12 hown hK hP 0 rfl rfl 52 (by decide) (hts (.fieldLink RX12 116 "SoldHouseModel" "waysTo" "[I") (List.mem_of_getElem? (i := 1) rfl)) (fun _ h9 => h9) rfl dX12_layWalks_169 ?_
                                  refine lv_iload_n hx hb dX12_layWalks_172 rfl (lv_at hl 0 rfl) ?_
                                  refine va_iald hx hb hK hP 9 0 rfl rfl (zB_in bx130f_v125_3 (by decide) (by decide)) dX12_layWalks_173 ?_
                                  refine lv_topi (fun y173 _ => ?_)
                                  refine lv_goto (tgt := 178) hx hb dX12_layWalks_174 (by decide) ?_
                                  exact j178 H locs ls y173 sMO_rooms_0_k125 sMO_creaks_0_k125 sMO_doors_0_k125 sMO_one_0_k125 sMO_other_0_k125 hP hD hS (lv_sub hl [0, 1, 2, 3] rfl)
                          refine lv_istore_n (lv' := [(3, .int 0), (2, .int v119_2), (0, .ref MO), (1, .int x0)]) hx hb dX12_layWalks_124 rfl hl (by decide) rfl (fun ls hl => ?_)
                          exact j125 9 H locs ls 0 g119_aMO52 g119_aMO66 (zB_w (show zB 0 0 0 from ⟨by decide, by decide⟩) (by decide) (by decide)) sMO_rooms_0_k119 sMO_creaks_0_k119 sMO_doors_0_k119 sMO_one_0_k119 sMO_other_0_k119 (zM_ui (show zB 0 0 0 from ⟨by decide, by decide⟩) (by decide)) hP hD hS (lv_sub hl [0, 1, 2, 3] rfl)
                    refine lv_istore_n (lv' := [(2, .int 7), (0, .ref MO), (1, .int x0)]) hx hb dX12_layWalks_118 rfl hl (by decide) rfl (fun ls hl => ?_)
                    exact j119 9 H locs ls 7 g95_aMO52 g34_aMO53 MO_waysOn (zB_w (show zB 7 7 7 from ⟨by decide, by decide⟩) (by decide) (by decide)) sMO_rooms_0_k95 sMO_creaks_0_k95 sMO_doors_0_k95 sMO_one_0_k95 sMO_other_0_k95 (zM_di (show zB 7 7 7 from ⟨by decide, by decide⟩) (by decide)) hP hD hS (lv_sub hl [0, 1, 2] rfl)
                  · have bx100f_v95_2 : zB v95_2 0 7 := zB_ltu (zf c100) bv95_2_k95 hr97 (by decide)
                    have by100f_r97 : zB r97 1 8 := zB_ltv (zf c100) bx100f_v95_2 hr97 (by decide)
                    refine lv_aload_n hx hb dX12_layWalks_103 rfl (lv_at hl 1 rfl) ?_
                    refine va_get (D := D) (ci := 12) (v := .ref (aMO 52)) (C := RX12) (T := TX12) (N := 71) hx hb hts iw_X12_layWalks_X12 hown hK hP 0 rfl rfl 52 (by decide) (hts (.fieldLink RX12 116 "SoldHouseModel" "waysTo" "[I") (List.mem_of_getElem? (i := 1) rfl)) (fun _ h9 => h9) rfl dX12_layWalks_104 ?_
                    refine lv_iload_n hx hb dX12_layWalks_107 rfl (lv_at hl 0 rfl) ?_
                    refine lv_iconst (v := 1) hx hb dX12_layWalks_108 (by decide) ?_
                    refine zi_iast hx hb hK hP hD hS 9 0 rfl rfl (zB_in bx100f_v95_2 (by decide) (by decide)) dX12_layWalks_109 (fun H locs g109 eg109 hP hD hS => ?_)
                    replace hP : va_P D classes [(MO, .inr (12, oX12 aMO MO_taped MO_size MO_faultKind MO_faultPlace MO_at MO_end MO_token MO_number MO_name MO_bank MO_rb MO_codes MO_within MO_piled MO_unitsInRule MO_askThing MO_acts MO_undone MO_laid MO_heards MO_time)), ((aMO 11), .inl (cI, 2, .inl MO_rooms)), ((aMO 59), .inl (cI, 30, .inl MO_hMinute)), ((aMO 63), .inl (cI, 30, .inl MO_hTold)), ((aMO 64), .inl (cI, 30, .inl MO_hUntold)), ((aMO 61), .inl (cI, 30, .inl MO_hRoom)), ((aMO 16), .inl (cI, 16, .inl MO_creaks)), ((aMO 60), .inl (cI, 30, .inl MO_hCreaks)), ((aMO 62), .inl (cI, 30, .inl MO_hIs)), ((aMO 52), .inl (cI, 8, .inl g109)), ((aMO 65), .inl (cI, 64, .inl g34_aMO65)), ((aMO 12), .inl (cI, 2, .inl MO_doors)), ((aMO 17), .inl (cI, 24, .inl MO_one)), ((aMO 18), .inl (cI, 24, .inl MO_other)), ((aMO 53), .inl (cI, 8, .inl g34_aMO53)), ((aMO 66), .inl (cI, 64, .inl MO_waysOn))] H := hP
                    replace hD : va_D A [(MO, .inr (12, oX12 aMO MO_taped MO_size MO_faultKind MO_faultPlace MO_at MO_end MO_token MO_number MO_name MO_bank MO_rb MO_codes MO_within MO_piled MO_unitsInRule MO_askThing MO_acts MO_undone MO_laid MO_heards MO_time)), ((aMO 11), .inl (cI, 2, .inl MO_rooms)), ((aMO 59), .inl (cI, 30, .inl MO_hMinute)), ((aMO 63), .inl (cI, 30, .inl MO_hTold)), ((aMO 64), .inl (cI, 30, .inl MO_hUntold)), ((aMO 61), .inl (cI, 30, .inl MO_hRoom)), ((aMO 16), .inl (cI, 16, .inl MO_creaks)), ((aMO 60), .inl (cI, 30, .inl MO_hCreaks)), ((aMO 62), .inl (cI, 30, .inl MO_hIs)), ((aMO 52), .inl (cI, 8, .inl g109)), ((aMO 65), .inl (cI, 64, .inl g34_aMO65)), ((aMO 12), .inl (cI, 2, .inl MO_doors)), ((aMO 17), .inl (cI, 24, .inl MO_one)), ((aMO 18), .inl (cI, 24, .inl MO_other)), ((aMO 53), .inl (cI, 8, .inl g34_aMO53)), ((aMO 66), .inl (cI, 64, .inl MO_waysOn))] := hD
                    clear eg109
                    obtain ⟨y110, by110, ry110, ey110⟩ := zi_inc (x := v95_2) (k := 1) (a := 1) (b := 8) bx100f_v95_2 (by decide) (by decide) (by decide) (by decide) (by decide)
                    refine lv_iinc (v := y110) (lv' := [(2, .int y110), (0, .ref MO), (1, .int x0)]) hx hb dX12_layWalks_110 hl (k := 0) rfl ey110 (by decide) rfl (fun ls hl => ?_)
                    refine lv_goto (tgt := 95) hx hb dX12_layWalks_113 (by decide) ?_
                    exact ih95 H locs ls y110 g109 (zB_w by110 (by decide) (by decide)) sMO_rooms_0_k95 sMO_creaks_0_k95 sMO_doors_0_k95 sMO_one_0_k95 sMO_other_0_k95 (zM_us (k := 1) hm95 ry110 (by decide)) hP hD hS (lv_sub hl [0, 1, 2] rfl)
              refine lv_istore_n (lv' := [(2, .int 0), (0, .ref MO), (1, .int x0)]) hx hb dX12_layWalks_94 rfl hl (by decide) rfl (fun ls hl => ?_)
              exact j95 9 H locs ls 0 g34_aMO52 (zB_w (show zB 0 0 0 from ⟨by decide, by decide⟩) (by decide) (by decide)) sMO_rooms_0_k34 sMO_creaks_0_k34 sMO_doors_0_k34 sMO_one_0_k34 sMO_other_0_k34 (zM_ui (show zB 0 0 0 from ⟨by decide, by decide⟩) (by decide)) hP hD hS (lv_sub hl [0, 1, 2] rfl)
            · have bx37f_v34_2 : zB v34_2 0 7 := zB_ltu (zf c37) bv34_2_k34 (show zB 8 8 8 from ⟨by decide, by decide⟩) (by decide)
              refine lv_iload_n hx hb dX12_layWalks_40 rfl (lv_at hl 0 rfl) ?_
              have j54 : ∀ (H : Heap) (locs : List Loc) (ls : Array Slot) (g54_aMO52 : Nat → Int32) (g54_aMO53 : Nat → Int32), zA MO_rooms 0 2 0 8 → zA MO_creaks 0 16 0 9 → zA MO_doors 0 2 0 12 → zA MO_one 0 24 0 7 → zA MO_other 0 24 0 7 → va_P D classes [(MO, .inr (12, oX12 aMO MO_taped MO_size MO_faultKind MO_faultPlace MO_at MO_end MO_token MO_number MO_name MO_bank MO_rb MO_codes MO_within MO_piled MO_unitsInRule MO_askThing MO_acts MO_undone MO_laid MO_heards MO_time)), ((aMO 11), .inl (cI, 2, .inl MO_rooms)), ((aMO 59), .inl (cI, 30, .inl MO_hMinute)), ((aMO 63), .inl (cI, 30, .inl MO_hTold)), ((aMO 64), .inl (cI, 30, .inl MO_hUntold)), ((aMO 61), .inl (cI, 30, .inl MO_hRoom)), ((aMO 16), .inl (cI, 16, .inl MO_creaks)), ((aMO 60), .inl (cI, 30, .inl MO_hCreaks)), ((aMO 62), .inl (cI, 30, .inl MO_hIs)), ((aMO 52), .inl (cI, 8, .inl g54_aMO52)), ((aMO 65), .inl (cI, 64, .inl g34_aMO65)), ((aMO 12), .inl (cI, 2, .inl MO_doors)), ((aMO 17), .inl (cI, 24, .inl MO_one)), ((aMO 18), .inl (cI, 24, .inl MO_other)), ((aMO 53), .inl (cI, 8, .inl g54_aMO53)), ((aMO 66), .inl (cI, 64, .inl MO_waysOn))] H → va_D A [(MO, .inr (12, oX12 aMO MO_taped MO_size MO_faultKind MO_faultPlace MO_at MO_end MO_token MO_number MO_name MO_bank MO_rb MO_codes MO_within MO_piled MO_unitsInRule MO_askThing MO_acts MO_undone MO_laid MO_heards MO_time)), ((aMO 11), .inl (cI, 2, .inl MO_rooms)), ((aMO 59), .inl (cI, 30, .inl MO_hMinute)), ((aMO 63), .inl (cI, 30, .inl MO_hTold)), ((aMO 64), .inl (cI, 30, .inl MO_hUntold)), ((aMO 61), .inl (cI, 30, .inl MO_hRoom)), ((aMO 16), .inl (cI, 16, .inl MO_creaks)), ((aMO 60), .inl (cI, 30, .inl MO_hCreaks)), ((aMO 62), .inl (cI, 30, .inl MO_hIs)), ((aMO 52), .inl (cI, 8, .inl g54_aMO52)), ((aMO 65), .inl (cI, 64, .inl g34_aMO65)), ((aMO 12), .inl (cI, 2, .inl MO_doors)), ((aMO 17), .inl (cI, 24, .inl MO_one)), ((aMO 18), .inl (cI, 24, .inl MO_other)), ((aMO 53), .inl (cI, 8, .inl g54_aMO53)), ((aMO 66), .inl (cI, 64, .inl MO_waysOn))] → va_S A s.heap H locs → lv_has ls 4 [(2, .int v34_2), (0, .ref MO), (1, .int x0)] → W p l e ({ frames := 3, cells := 0, slots := 0, locals := 69 } : Room) s m ([.ref MO, .int x0] : List Value).toArray below meth c H locs 0 0 Q (F0 m 54 ls []) := by
                intro H locs ls g54_aMO52 g54_aMO53 sMO_rooms_0_k54 sMO_creaks_0_k54 sMO_doors_0_k54 sMO_one_0_k54 sMO_other_0_k54 hP hD hS hl
                refine lv_iconst (v := 0) hx hb dX12_layWalks_54 (by decide) ?_
                have j56 : ∀ (n56 : Nat) (H : Heap) (locs : List Loc) (ls : Array Slot) (v56_3 : Int32) (g56_aMO65 : Nat → Int32), zB v56_3 0 8 → zA MO_rooms 0 2 0 8 → zA MO_creaks 0 16 0 9 → zA MO_doors 0 2 0 12 → zA MO_one 0 24 0 7 → zA MO_other 0 24 0 7 → (8 + 1 - v56_3.toInt) ≤ (n56 : Int) → va_P D classes [(MO, .inr (12, oX12 aMO MO_taped MO_size MO_faultKind MO_faultPlace MO_at MO_end MO_token MO_number MO_name MO_bank MO_rb MO_codes MO_within MO_piled MO_unitsInRule MO_askThing MO_acts MO_undone MO_laid MO_heards MO_time)), ((aMO 11), .inl (cI, 2, .inl MO_rooms)), ((aMO 59), .inl (cI, 30, .inl MO_hMinute)), ((aMO 63), .inl (cI, 30, .inl MO_hTold)), ((aMO 64), .inl (cI, 30, .inl MO_hUntold)), ((aMO 61), .inl (cI, 30, .inl MO_hRoom)), ((aMO 16), .inl (cI, 16, .inl MO_creaks)), ((aMO 60), .inl (cI, 30, .inl MO_hCreaks)), ((aMO 62), .inl (cI, 30, .inl MO_hIs)), ((aMO 52), .inl (cI, 8, .inl g54_aMO52)), ((aMO 65), .inl (cI, 64, .inl g56_aMO65)), ((aMO 12), .inl (cI, 2, .inl MO_doors)), ((aMO 17), .inl (cI, 24, .inl MO_one)), ((aMO 18), .inl (cI, 24, .inl MO_other)), ((aMO 53), .inl (cI, 8, .inl g54_aMO53)), ((aMO 66), .inl (cI, 64, .inl MO_waysOn))] H → va_D A [(MO, .inr (12, oX12 aMO MO_taped MO_size MO_faultKind MO_faultPlace MO_at MO_end MO_token MO_number MO_name MO_bank MO_rb MO_codes MO_within MO_piled MO_unitsInRule MO_askThing MO_acts MO_undone MO_laid MO_heards MO_time)), ((aMO 11), .inl (cI, 2, .inl MO_rooms)), ((aMO 59), .inl (cI, 30, .inl MO_hMinute)), ((aMO 63), .inl (cI, 30, .inl MO_hTold)), ((aMO 64), .inl (cI, 30, .inl MO_hUntold)), ((aMO 61), .inl (cI, 30, .inl MO_hRoom)), ((aMO 16), .inl (cI, 16, .inl MO_creaks)), ((aMO 60), .inl (cI, 30, .inl MO_hCreaks)), ((aMO 62), .inl (cI, 30, .inl MO_hIs)), ((aMO 52), .inl (cI, 8, .inl g54_aMO52)), ((aMO 65), .inl (cI, 64, .inl g56_aMO65)), ((aMO 12), .inl (cI, 2, .inl MO_doors)), ((aMO 17), .inl (cI, 24, .inl MO_one)), ((aMO 18), .inl (cI, 24, .inl MO_other)), ((aMO 53), .inl (cI, 8, .inl g54_aMO53)), ((aMO 66), .inl (cI, 64, .inl MO_waysOn))] → va_S A s.heap H locs → lv_has ls 4 [(3, .int v56_3), (2, .int v34_2), (0, .ref MO), (1, .int x0)] → W p l e ({ frames := 3, cells := 0, slots := 0, locals := 69 } : Room) s m ([.ref MO, .int x0] : List Value).toArray below meth c H locs 0 0 Q (F0 m 56 ls []) := by
                  intro n56
                  induction n56 with
                  | zero => intro H locs ls v56_3 g56_aMO65 bv56_3_k56 sMO_rooms_0_k56 sMO_creaks_0_k56 sMO_doors_0_k56 sMO_one_0_k56 sMO_other_0_k56 hm56 hP hD hS hl; exact zM_u0 bv56_3_k56 hm56
                  | succ n56 ih56 =>
                    intro H locs ls v56_3 g56_aMO65 bv56_3_k56 sMO_rooms_0_k56 sMO_creaks_0_k56 sMO_doors_0_k56 sMO_one_0_k56 sMO_other_0_k56 hm56 hP hD hS hl
                    refine lv_iload_n hx hb dX12_layWalks_56 rfl (lv_at hl 0 rfl) ?_
                    refine lv_aload_n hx hb dX12_layWalks_57 rfl (lv_at hl 2 rfl) ?_
                    have hPc := hP.sub (ws' := [(MO, .inr (12, oX12 aMO MO_taped MO_size MO_faultKind MO_faultPlace MO_at MO_end MO_token MO_number MO_name MO_bank MO_rb MO_codes MO_within MO_piled MO_unitsInRule MO_askThing MO_acts MO_undone MO_laid MO_heards MO_time)), ((aMO 11), .inl (cI, 2, .inl MO_rooms))]) [0, 1] rfl
                    refine vp_callSi (va_runV (As := []) (rest := [.int v56_3]) ⟨hx, hb, hml, hown, hts⟩ (c_X12_places l D cI cB cL cZ cG MO aMO MO_taped MO_size MO_faultKind MO_faultPlace MO_at MO_end MO_token MO_number MO_name MO_bank MO_rb MO_codes MO_within MO_piled MO_unitsInRule MO_askThing MO_acts MO_undone MO_laid MO_heards MO_time MO_rooms b_MO_taped b_MO_size b_MO_faultKind b_MO_at b_MO_end b_MO_token b_MO_bank b_MO_rb b_MO_codes b_MO_within b_MO_piled b_MO_unitsInRule b_MO_askThing b_MO_acts b_MO_undone b_MO_laid b_MO_heards b_MO_time sMO_rooms_0_k56) (cwV 0 hts gX12_layWalks_X12_places rfl rfl rfl (by decide +kernel) ⟨Nat.le_of_ble_eq_true rfl, Nat.le_of_ble_eq_true rfl⟩) ⟨xr_blind, va_recv hK hP (ci := 12) (q0 := 0) rfl rfl, fun U hU hW => xr_mk hU hW hPc hK⟩ rfl rfl hl.1 rfl (lv_room (Nat.le_of_ble_eq_true rfl)) dX12_layWalks_58 ⟨Nat.le_of_ble_eq_true rfl, Nat.le_of_ble_eq_true rfl⟩).run (fun r58 hr58 => ?_)
                    obtain ⟨hr58, p58_v, p58_i⟩ := hr58
                    clear hPc
                    refine lv_icmp_ge (tgt := 87) hx hb dX12_layWalks_61 (by decide) (fun c61 => ?_) (fun c61 => ?_)
                    · obtain ⟨y87, by87, ry87, ey87⟩ := zi_inc (x := v34_2) (k := 1) (a := 1) (b := 8) bx37f_v34_2 (by decide) (by decide) (by decide) (by decide) (by decide)
                      refine lv_iinc (v := y87) (lv' := [(2, .int y87), (3, .int v56_3), (0, .ref MO), (1, .int x0)]) hx hb dX12_layWalks_87 hl (k := 1) rfl ey87 (by decide) rfl (fun ls hl => ?_)
                      refine lv_goto (tgt := 34) hx hb dX12_layWalks_90 (by decide) ?_
                      exact ih34 H locs ls y87 g54_aMO52 g56_aMO65 g54_aMO53 (zB_w by87 (by decide) (by decide)) sMO_rooms_0_k56 sMO_creaks_0_k56 sMO_doors_0_k56 sMO_one_0_k56 sMO_other_0_k56 (zM_us (k := 1) hm34 ry87 (by decide)) hP hD hS (lv_sub hl [0, 2, 3] rfl)
                    · have bx61f_v56_3 : zB v56_3 0 7 := zB_ltu (zf c61) bv56_3_k56 hr58 (by decide)
                      have by61f_r58 : zB r58 1 8 := zB_ltv (zf c61) bx61f_v56_3 hr58 (by decide)
                      refine lv_aload_n hx hb dX12_layWalks_64 rfl (lv_at hl 2 rfl) ?_
                      refine va_get (D := D) (ci := 12) (v := .ref (aMO 65)) (C := RX12) (T := TX12) (N := 71) hx hb hts iw_X12_layWalks_X12 hown hK hP 0 rfl rfl 65 (by decide) (hts (.fieldLink RX12 155 "SoldHouseModel" "waysAt" "[I") (List.mem_of_getElem? (i := 2) rfl)) (fun _ h9 => h9) rfl dX12_layWalks_65 ?_
                      refine lv_bipush (v := 8) hx hb dX12_layWalks_68 (by decide) ?_
                      refine lv_iload_n hx hb dX12_layWalks_70 rfl (lv_at hl 1 rfl) ?_
                      refine lv_imul hx hb dX12_layWalks_71 ?_
                      refine zi_top (a := 0) (b := 56) (zB_mul (show zB 8 8 8 from ⟨by decide, by decide⟩) bx37f_v34_2 (by decide) (by decide) (by decide) (by decide) (by decide)) (fun y71 by71 => ?_)
                      refine lv_iload_n hx hb dX12_layWalks_72 rfl (lv_at hl 0 rfl) ?_
                      refine lv_iadd hx hb dX12_layWalks_73 ?_
                      refine zi_top (a := 0) (b := 63) (zB_add by71 bx61f_v56_3 (by decide) (by decide) (by decide) (by decide)) (fun y73 by73 => ?_)
                      refine lv_aload_n hx hb dX12_layWalks_74 rfl (lv_at hl 2 rfl) ?_
                      refine va_get (D := D) (ci := 12) (v := .ref (aMO 52)) (C := RX12) (T := TX12) (N := 71) hx hb hts iw_X12_layWalks_X12 hown hK hP 0 rfl rfl 52 (by decide) (hts (.fieldLink RX12 116 "SoldHouseModel" "waysTo" "[I") (List.mem_of_getElem? (i := 1) rfl)) (fun _ h9 => h9) rfl dX12_layWalks_75 ?_
                      refine lv_iload_n hx hb dX12_layWalks_78 rfl (lv_at hl 0 rfl) ?_
                      refine va_iald hx hb hK hP 9 0 rfl rfl (zB_in bx61f_v56_3 (by decide) (by decide)) dX12_layWalks_79 ?_
                      refine lv_topi (fun y79 _ => ?_)
                      refine zi_iast hx hb hK hP hD hS 10 0 rfl rfl (zB_in by73 (by decide) (by decide)) dX12_layWalks_80 (fun H locs g80 eg80 hP hD hS => ?_)
                      replace hP : va_P D classes [(MO, .inr (12, oX12 aMO MO_taped MO_size MO_faultKind MO_faultPlace MO_at MO_end MO_token MO_number MO_name MO_bank MO_rb MO_codes MO_within MO_piled MO_unitsInRule MO_askThing MO_acts MO_undone MO_laid MO_heards MO_time)), ((aMO 11), .inl (cI, 2, .inl MO_rooms)), ((aMO 59), .inl (cI, 30, .inl MO_hMinute)), ((aMO 63), .inl (cI, 30, .inl MO_hTold)), ((aMO 64), .inl (cI, 30, .inl MO_hUntold)), ((aMO 61), .inl (cI, 30, .inl MO_hRoom)), ((aMO 16), .inl (cI, 16, .inl MO_creaks)), ((aMO 60), .inl (cI, 30, .inl MO_hCreaks)), ((aMO 62), .inl (cI, 30, .inl MO_hIs)), ((aMO 52), .inl (cI, 8, .inl g54_aMO52)), ((aMO 65), .inl (cI, 64, .inl g80)), ((aMO 12), .inl (cI, 2, .inl MO_doors)), ((aMO 17), .inl (cI, 24, .inl MO_one)), ((aMO 18), .inl (cI, 24, .inl MO_other)), ((aMO 53), .inl (cI, 8, .inl g54_aMO53)), ((aMO 66), .inl (cI, 64, .inl MO_waysOn))] H := hP
                      replace hD : va_D A [(MO, .inr (12, oX12 aMO MO_taped MO_size MO_faultKind MO_faultPlace MO_at MO_end MO_token MO_number MO_name MO_bank MO_rb MO_codes MO_within MO_piled MO_unitsInRule MO_askThing MO_acts MO_undone MO_laid MO_heards MO_time)), ((aMO 11), .inl (cI, 2, .inl MO_rooms)), ((aMO 59), .inl (cI, 30, .inl MO_hMinute)), ((aMO 63), .inl (cI, 30, .inl MO_hTold)), ((aMO 64), .inl (cI, 30, .inl MO_hUntold)), ((aMO 61), .inl (cI, 30, .inl MO_hRoom)), ((aMO 16), .inl (cI, 16, .inl MO_creaks)), ((aMO 60), .inl (cI, 30, .inl MO_hCreaks)), ((aMO 62), .inl (cI, 30, .inl MO_hIs)), ((aMO 52), .inl (cI, 8, .inl g54_aMO52)), ((aMO 65), .inl (cI, 64, .inl g80)), ((aMO 12), .inl (cI, 2, .inl MO_doors)), ((aMO 17), .inl (cI, 24, .inl MO_one)), ((aMO 18), .inl (cI, 24, .inl MO_other)), ((aMO 53), .inl (cI, 8, .inl g54_aMO53)), ((aMO 66), .inl (cI, 64, .inl MO_waysOn))] := hD
                      clear eg80
                      obtain ⟨y81, by81, ry81, ey81⟩ := zi_inc (x := v56_3) (k := 1) (a := 1) (b := 8) bx61f_v56_3 (by decide) (by decide) (by decide) (by decide) (by decide)
                      refine lv_iinc (v := y81) (lv' := [(3, .int y81), (2, .int v34_2), (0, .ref MO), (1, .int x0)]) hx hb dX12_layWalks_81 hl (k := 0) rfl ey81 (by decide) rfl (fun ls hl => ?_)
                      refine lv_goto (tgt := 56) hx hb dX12_layWalks_84 (by decide) ?_
                      exact ih56 H locs ls y81 g80 (zB_w by81 (by decide) (by decide)) sMO_rooms_0_k56 sMO_creaks_0_k56 sMO_doors_0_k56 sMO_one_0_k56 sMO_other_0_k56 (zM_us (k := 1) hm56 ry81 (by decide)) hP hD hS (lv_sub hl [0, 1, 2, 3] rfl)
                refine lv_istore_n (lv' := [(3, .int 0), (2, .int v34_2), (0, .ref MO), (1, .int x0)]) hx hb dX12_layWalks_55 rfl hl (by decide) rfl (fun ls hl => ?_)
                exact j56 9 H locs ls 0 g34_aMO65 (zB_w (show zB 0 0 0 from ⟨by decide, by decide⟩) (by decide) (by decide)) sMO_rooms_0_k54 sMO_creaks_0_k54 sMO_doors_0_k54 sMO_one_0_k54 sMO_other_0_k54 (zM_ui (show zB 0 0 0 from ⟨by decide, by decide⟩) (by decide)) hP hD hS (lv_sub hl [0, 1, 2, 3] rfl)
              refine lv_if_le (tgt := 54) hx hb dX12_layWalks_41 (by decide) (fun c41 => ?_) (fun c41 => ?_)
              · have bx41t_v34_2 : zB v34_2 0 0 := zB_leu (ze c41) bx37f_v34_2 (show zB 0 0 0 from ⟨by decide, by decide⟩) (by decide)
                exact j54 H locs ls g34_aMO52 g34_aMO53 sMO_rooms_0_k34 sMO_creaks_0_k34 sMO_doors_0_k34 sMO_one_0_k34 sMO_other_0_k34 hP hD hS (lv_sub hl [0, 1, 2] rfl)
              · have by41f_v34_2 : zB v34_2 1 7 := zB_ltv (zf c41) (show zB 0 0 0 from ⟨by decide, by decide⟩) bx37f_v34_2 (by decide)
                refine lv_aload_n hx hb dX12_layWalks_44 rfl (lv_at hl 1 rfl) ?_
                refine lv_aload_n hx hb dX12_layWalks_45 rfl (lv_at hl 1 rfl) ?_
                refine lv_iload_n hx hb dX12_layWalks_46 rfl (lv_at hl 0 rfl) ?_
                refine lv_iload_n hx hb dX12_layWalks_47 rfl (lv_at hl 2 rfl) ?_
                have hPc := hP.sub (ws' := [(MO, .inr (12, oX12 aMO MO_taped MO_size MO_faultKind MO_faultPlace MO_at MO_end MO_token MO_number MO_name MO_bank MO_rb MO_codes MO_within MO_piled MO_unitsInRule MO_askThing MO_acts MO_undone MO_laid MO_heards MO_time)), ((aMO 11), .inl (cI, 2, .inl MO_rooms)), ((aMO 59), .inl (cI, 30, .inl MO_hMinute)), ((aMO 63), .inl (cI, 30, .inl MO_hTold)), ((aMO 64), .inl (cI, 30, .inl MO_hUntold)), ((aMO 61), .inl (cI, 30, .inl MO_hRoom)), ((aMO 16), .inl (cI, 16, .inl MO_creaks)), ((aMO 60), .inl (cI, 30, .inl MO_hCreaks)), ((aMO 62), .inl (cI, 30, .inl MO_hIs))]) [0, 1, 2, 3, 4, 5, 6, 7, 8] rfl
                refine vp_callSi (va_runV (As := [.int v34_2, .int x0]) (rest := [.ref MO]) ⟨hx, hb, hml, hown, hts⟩ (c_X12_openAt l D cI cB cL cZ cG MO v34_2 x0 aMO MO_taped MO_size MO_faultKind MO_faultPlace MO_at MO_end MO_token MO_number MO_name MO_bank MO_rb MO_codes MO_within MO_piled MO_unitsInRule MO_askThing MO_acts MO_undone MO_laid MO_heards MO_time MO_rooms MO_hMinute MO_hTold MO_hUntold MO_hRoom MO_creaks MO_hCreaks MO_hIs b_MO_taped b_MO_size b_MO_faultKind b_MO_at b_MO_end b_MO_token b_MO_bank b_MO_rb b_MO_codes b_MO_within b_MO_piled b_MO_unitsInRule b_MO_askThing b_MO_acts b_MO_undone b_MO_laid b_MO_heards b_MO_time sMO_rooms_0_k34 sMO_creaks_0_k34) (cwV 2 hts gX12_layWalks_X12_openAt rfl rfl rfl (by decide +kernel) ⟨Nat.le_of_ble_eq_true rfl, Nat.le_of_ble_eq_true rfl⟩) ⟨xr_blind, va_recv hK hP (ci := 12) (q0 := 0) rfl rfl, fun U hU hW => xr_mk hU hW hPc hK⟩ rfl rfl hl.1 rfl (lv_room (Nat.le_of_ble_eq_true rfl)) dX12_layWalks_48 ⟨Nat.le_of_ble_eq_true rfl, Nat.le_of_ble_eq_true rfl⟩).run (fun r48 hr48 => ?_)
                clear hPc
                have hPc := hP.sub (ws' := [(MO, .inr (12, oX12 aMO MO_taped MO_size MO_faultKind MO_faultPlace MO_at MO_end MO_token MO_number MO_name MO_bank MO_rb MO_codes MO_within MO_piled MO_unitsInRule MO_askThing MO_acts MO_undone MO_laid MO_heards MO_time)), ((aMO 11), .inl (cI, 2, .inl MO_rooms)), ((aMO 12), .inl (cI, 2, .inl MO_doors)), ((aMO 17), .inl (cI, 24, .inl MO_one)), ((aMO 18), .inl (cI, 24, .inl MO_other)), ((aMO 53), .inl (cI, 8, .inl g34_aMO53)), ((aMO 52), .inl (cI, 8, .inl g34_aMO52))]) [0, 1, 11, 12, 13, 14, 9] rfl
                have hDc := hD.sub (ws' := [(MO, .inr (12, oX12 aMO MO_taped MO_size MO_faultKind MO_faultPlace MO_at MO_end MO_token MO_number MO_name MO_bank MO_rb MO_codes MO_within MO_piled MO_unitsInRule MO_askThing MO_acts MO_undone MO_laid MO_heards MO_time)), ((aMO 11), .inl (cI, 2, .inl MO_rooms)), ((aMO 12), .inl (cI, 2, .inl MO_doors)), ((aMO 17), .inl (cI, 24, .inl MO_one)), ((aMO 18), .inl (cI, 24, .inl MO_other)), ((aMO 53), .inl (cI, 8, .inl g34_aMO53)), ((aMO 52), .inl (cI, 8, .inl g34_aMO52))]) [0, 1, 11, 12, 13, 14, 9] (by decide) rfl
                have hFc := va_free (wc := [(MO, .inr (12, oX12 aMO MO_taped MO_size MO_faultKind MO_faultPlace MO_at MO_end MO_token MO_number MO_name MO_bank MO_rb MO_codes MO_within MO_piled MO_unitsInRule MO_askThing MO_acts MO_undone MO_laid MO_heards MO_time)), ((aMO 11), .inl (cI, 2, .inl MO_rooms)), ((aMO 12), .inl (cI, 2, .inl MO_doors)), ((aMO 17), .inl (cI, 24, .inl MO_one)), ((aMO 18), .inl (cI, 24, .inl MO_other)), ((aMO 53), .inl (cI, 8, .inl g34_aMO53)), ((aMO 52), .inl (cI, 8, .inl g34_aMO52))]) hD hS hA [0, 1, 11, 12, 13, 14, 9] rfl
                refine va_callv (va_runV (As := [.int r48]) (rest := []) ⟨hx, hb, hml, hown, hts⟩ (c_X12_stepOn l D cI cB cL cZ cG MO r48 aMO MO_taped MO_size MO_faultKind MO_faultPlace MO_at MO_end MO_token MO_number MO_name MO_bank MO_rb MO_codes MO_within MO_piled MO_unitsInRule MO_askThing MO_acts MO_undone MO_laid MO_heards MO_time MO_rooms MO_doors MO_one MO_other g34_aMO53 g34_aMO52 H.size b_MO_taped b_MO_size b_MO_faultKind b_MO_at b_MO_end b_MO_token b_MO_bank b_MO_rb b_MO_codes b_MO_within b_MO_piled b_MO_unitsInRule b_MO_askThing b_MO_acts b_MO_undone b_MO_laid b_MO_heards b_MO_time sMO_rooms_0_k34 sMO_doors_0_k34 sMO_one_0_k34 sMO_other_0_k34) (cwV 1 hts gX12_layWalks_X12_stepOn rfl rfl rfl (by decide +kernel) ⟨Nat.le_of_ble_eq_true rfl, Nat.le_of_ble_eq_true rfl⟩) ⟨xp_blind, va_recv hK hP (ci := 12) (q0 := 0) rfl rfl, fun U hU hW => xp_mk hU hW hPc hK hDc xNw_nil⟩ rfl rfl hl.1 rfl (lv_room (Nat.le_of_ble_eq_true rfl)) dX12_layWalks_51 ⟨Nat.le_of_ble_eq_true rfl, Nat.le_of_ble_eq_true rfl⟩) hS (fun q _ h => hFc q h) hFc (fun u9 t9 H1 locs ht9 hvm9 hr51 hB9 hz9 hk9 hS => ?_)
                obtain ⟨o51_nMOwaysThen, o51_nMOwaysTo, hP1, hD1⟩ := hB9
                rw [ht9] at hP1
                obtain ⟨hP, hD⟩ := va_join (wr := [((aMO 59), .inl (cI, 30, .inl MO_hMinute)), ((aMO 63), .inl (cI, 30, .inl MO_hTold)), ((aMO 64), .inl (cI, 30, .inl MO_hUntold)), ((aMO 61), .inl (cI, 30, .inl MO_hRoom)), ((aMO 16), .inl (cI, 16, .inl MO_creaks)), ((aMO 60), .inl (cI, 30, .inl MO_hCreaks)), ((aMO 62), .inl (cI, 30, .inl MO_hIs)), ((aMO 65), .inl (cI, 64, .inl g34_aMO65)), ((aMO 66), .inl (cI, 64, .inl MO_waysOn))]) (w1 := [(MO, .inr (12, oX12 aMO MO_taped MO_size MO_faultKind MO_faultPlace MO_at MO_end MO_token MO_number MO_name MO_bank MO_rb MO_codes MO_within MO_piled MO_unitsInRule MO_askThing MO_acts MO_undone MO_laid MO_heards MO_time)), ((aMO 11), .inl (cI, 2, .inl MO_rooms)), ((aMO 12), .inl (cI, 2, .inl MO_doors)), ((aMO 17), .inl (cI, 24, .inl MO_one)), ((aMO 18), .inl (cI, 24, .inl MO_other)), ((aMO 53), .inl (cI, 8, .inl o51_nMOwaysThen)), ((aMO 52), .inl (cI, 8, .inl o51_nMOwaysTo))]) hP hD [0, 1, 11, 12, 13, 14, 9] [2, 3, 4, 5, 6, 7, 8, 10, 15] rfl rfl (by decide) (by decide) hk9 hFc hP1 hD1
                clear hz9 hPc hDc hP1 hD1 hk9 hFc ht9 hvm9 u9 t9
                generalize H1 = H at hP hS ⊢
                replace hP : va_P D classes [(MO, .inr (12, oX12 aMO MO_taped MO_size MO_faultKind MO_faultPlace MO_at MO_end MO_token MO_number MO_name MO_bank MO_rb MO_codes MO_within MO_piled MO_unitsInRule MO_askThing MO_acts MO_undone MO_laid MO_heards MO_time)), ((aMO 11), .inl (cI, 2, .inl MO_rooms)), ((aMO 59), .inl (cI, 30, .inl MO_hMinute)), ((aMO 63), .inl (cI, 30, .inl MO_hTold)), ((aMO 64), .inl (cI, 30, .inl MO_hUntold)), ((aMO 61), .inl (cI, 30, .inl MO_hRoom)), ((aMO 16), .inl (cI, 16, .inl MO_creaks)), ((aMO 60), .inl (cI, 30, .inl MO_hCreaks)), ((aMO 62), .inl (cI, 30, .inl MO_hIs)), ((aMO 52), .inl (cI, 8, .inl o51_nMOwaysTo)), ((aMO 65), .inl (cI, 64, .inl g34_aMO65)), ((aMO 12), .inl (cI, 2, .inl MO_doors)), ((aMO 17), .inl (cI, 24, .inl MO_one)), ((aMO 18), .inl (cI, 24, .inl MO_other)), ((aMO 53), .inl (cI, 8, .inl o51_nMOwaysThen)), ((aMO 66), .inl (cI, 64, .inl MO_waysOn))] H := hP.sub [9, 10, 0, 1, 2, 3, 4, 5, 6, 15, 7, 11, 12, 13, 14, 8] rfl
                replace hD : va_D A [(MO, .inr (12, oX12 aMO MO_taped MO_size MO_faultKind MO_faultPlace MO_at MO_end MO_token MO_number MO_name MO_bank MO_rb MO_codes MO_within MO_piled MO_unitsInRule MO_askThing MO_acts MO_undone MO_laid MO_heards MO_time)), ((aMO 11), .inl (cI, 2, .inl MO_rooms)), ((aMO 59), .inl (cI, 30, .inl MO_hMinute)), ((aMO 63), .inl (cI, 30, .inl MO_hTold)), ((aMO 64), .inl (cI, 30, .inl MO_hUntold)), ((aMO 61), .inl (cI, 30, .inl MO_hRoom)), ((aMO 16), .inl (cI, 16, .inl MO_creaks)), ((aMO 60), .inl (cI, 30, .inl MO_hCreaks)), ((aMO 62), .inl (cI, 30, .inl MO_hIs)), ((aMO 52), .inl (cI, 8, .inl o51_nMOwaysTo)), ((aMO 65), .inl (cI, 64, .inl g34_aMO65)), ((aMO 12), .inl (cI, 2, .inl MO_doors)), ((aMO 17), .inl (cI, 24, .inl MO_one)), ((aMO 18), .inl (cI, 24, .inl MO_other)), ((aMO 53), .inl (cI, 8, .inl o51_nMOwaysThen)), ((aMO 66), .inl (cI, 64, .inl MO_waysOn))] := hD.sub [9, 10, 0, 1, 2, 3, 4, 5, 6, 15, 7, 11, 12, 13, 14, 8] (by decide) rfl
                exact j54 H locs ls o51_nMOwaysTo o51_nMOwaysThen sMO_rooms_0_k34 sMO_creaks_0_k34 sMO_doors_0_k34 sMO_one_0_k34 sMO_other_0_k34 hP hD hS (lv_sub hl [0, 1, 2] rfl)
        refine lv_istore_n (lv' := [(2, .int 0), (0, .ref MO), (1, .int x0)]) hx hb dX12_layWalks_33 rfl hl (by decide) rfl (fun ls hl => ?_)
        exact j34 9 H locs ls 0 g2_aMO52 MO_waysAt MO_waysThen (zB_w (show zB 0 0 0 from ⟨by decide, by decide⟩) (by decide) (by decide)) sMO_rooms_0_k2 sMO_creaks_0_k2 sMO_doors_0_k2 sMO_one_0_k2 sMO_other_0_k2 (zM_ui (show zB 0 0 0 from ⟨by decide, by decide⟩) (by decide)) hP hD hS (lv_sub hl [0, 1, 2] rfl)
      · have bx7f_v2_2 : zB v2_2 0 7 := zB_ltu (zf c7) bv2_2_k2 hr4 (by decide)
        have by7f_r4 : zB r4 1 8 := zB_ltv (zf c7) bx7f_v2_2 hr4 (by decide)
        refine lv_aload_n hx hb dX12_layWalks_10 rfl (lv_at hl 1 rfl) ?_
        refine va_get (D := D) (ci := 12) (v := .ref (aMO 52)) (C := RX12) (T := TX12) (N := 71) hx hb hts iw_X12_layWalks_X12 hown hK hP 0 rfl rfl 52 (by decide) (hts (.fieldLink RX12 116 "SoldHouseModel" "waysTo" "[I") (List.mem_of_getElem? (i := 1) rfl)) (fun _ h9 => h9) rfl dX12_layWalks_11 ?_
        refine lv_iload_n hx hb dX12_layWalks_14 rfl (lv_at hl 0 rfl) ?_
        refine lv_aload_n hx hb dX12_layWalks_15 rfl (lv_at hl 1 rfl) ?_
        refine lv_iconst (v := 0) hx hb dX12_layWalks_16 (by decide) ?_
        refine lv_iload_n hx hb dX12_layWalks_17 rfl (lv_at hl 2 rfl) ?_
        have hPc := hP.sub (ws' := [(MO, .inr (12, oX12 aMO MO_taped MO_size MO_faultKind MO_faultPlace MO_at MO_end MO_token MO_number MO_name MO_bank MO_rb MO_codes MO_within MO_piled MO_unitsInRule MO_askThing MO_acts MO_undone MO_laid MO_heards MO_time)), ((aMO 11), .inl (cI, 2, .inl MO_rooms)), ((aMO 59), .inl (cI, 30, .inl MO_hMinute)), ((aMO 63), .inl (cI, 30, .inl MO_hTold)), ((aMO 64), .inl (cI, 30, .inl MO_hUntold)), ((aMO 61), .inl (cI, 30, .inl MO_hRoom)), ((aMO 16), .inl (cI, 16, .inl MO_creaks)), ((aMO 60), .inl (cI, 30, .inl MO_hCreaks)), ((aMO 62), .inl (cI, 30, .inl MO_hIs))]) [0, 1, 2, 3, 4, 5, 6, 7, 8] rfl
        refine vp_callSi (va_runV (As := [.int 0, .int x0]) (rest := [.int v2_2, .ref (aMO 52)]) ⟨hx, hb, hml, hown, hts⟩ (c_X12_openAt l D cI cB cL cZ cG MO 0 x0 aMO MO_taped MO_size MO_faultKind MO_faultPlace MO_at MO_end MO_token MO_number MO_name MO_bank MO_rb MO_codes MO_within MO_piled MO_unitsInRule MO_askThing MO_acts MO_undone MO_laid MO_heards MO_time MO_rooms MO_hMinute MO_hTold MO_hUntold MO_hRoom MO_creaks MO_hCreaks MO_hIs b_MO_taped b_MO_size b_MO_faultKind b_MO_at b_MO_end b_MO_token b_MO_bank b_MO_rb b_MO_codes b_MO_within b_MO_piled b_MO_unitsInRule b_MO_askThing b_MO_acts b_MO_undone b_MO_laid b_MO_heards b_MO_time sMO_rooms_0_k2 sMO_creaks_0_k2) (cwV 2 hts gX12_layWalks_X12_openAt rfl rfl rfl (by decide +kernel) ⟨Nat.le_of_ble_eq_true rfl, Nat.le_of_ble_eq_true rfl⟩) ⟨xr_blind, va_recv hK hP (ci := 12) (q0 := 0) rfl rfl, fun U hU hW => xr_mk hU hW hPc hK⟩ rfl rfl hl.1 rfl (lv_room (Nat.le_of_ble_eq_true rfl)) dX12_layWalks_18 ⟨Nat.le_of_ble_eq_true rfl, Nat.le_of_ble_eq_true rfl⟩).run (fun r18 hr18 => ?_)
        clear hPc
        refine lv_iload_n hx hb dX12_layWalks_21 rfl (lv_at hl 0 rfl) ?_
        refine lv_ishr hx hb dX12_layWalks_22 ?_
        refine zi_top (a := 0) (b := 255) (zB_shr hr18 (by decide)) (fun y22 by22 => ?_)
        refine lv_iconst (v := 1) hx hb dX12_layWalks_23 (by decide) ?_
        refine lv_iand hx hb dX12_layWalks_24 ?_
        refine zi_top (a := 0) (b := 1) (zB_andr (show zB 1 1 1 from ⟨by decide, by decide⟩) (by decide)) (fun y24 by24 => ?_)
        refine zi_iast hx hb hK hP hD hS 9 0 rfl rfl (zB_in bx7f_v2_2 (by decide) (by decide)) dX12_layWalks_25 (fun H locs g25 eg25 hP hD hS => ?_)
        replace hP : va_P D classes [(MO, .inr (12, oX12 aMO MO_taped MO_size MO_faultKind MO_faultPlace MO_at MO_end MO_token MO_number MO_name MO_bank MO_rb MO_codes MO_within MO_piled MO_unitsInRule MO_askThing MO_acts MO_undone MO_laid MO_heards MO_time)), ((aMO 11), .inl (cI, 2, .inl MO_rooms)), ((aMO 59), .inl (cI, 30, .inl MO_hMinute)), ((aMO 63), .inl (cI, 30, .inl MO_hTold)), ((aMO 64), .inl (cI, 30, .inl MO_hUntold)), ((aMO 61), .inl (cI, 30, .inl MO_hRoom)), ((aMO 16), .inl (cI, 16, .inl MO_creaks)), ((aMO 60), .inl (cI, 30, .inl MO_hCreaks)), ((aMO 62), .inl (cI, 30, .inl MO_hIs)), ((aMO 52), .inl (cI, 8, .inl g25)), ((aMO 65), .inl (cI, 64, .inl MO_waysAt)), ((aMO 12), .inl (cI, 2, .inl MO_doors)), ((aMO 17), .inl (cI, 24, .inl MO_one)), ((aMO 18), .inl (cI, 24, .inl MO_other)), ((aMO 53), .inl (cI, 8, .inl MO_waysThen)), ((aMO 66), .inl (cI, 64, .inl MO_waysOn))] H := hP
        replace hD : va_D A [(MO, .inr (12, oX12 aMO MO_taped MO_size MO_faultKind MO_faultPlace MO_at MO_end MO_token MO_number MO_name MO_bank MO_rb MO_codes MO_within MO_piled MO_unitsInRule MO_askThing MO_acts MO_undone MO_laid MO_heards MO_time)), ((aMO 11), .inl (cI, 2, .inl MO_rooms)), ((aMO 59), .inl (cI, 30, .inl MO_hMinute)), ((aMO 63), .inl (cI, 30, .inl MO_hTold)), ((aMO 64), .inl (cI, 30, .inl MO_hUntold)), ((aMO 61), .inl (cI, 30, .inl MO_hRoom)), ((aMO 16), .inl (cI, 16, .inl MO_creaks)), ((aMO 60), .inl (cI, 30, .inl MO_hCreaks)), ((aMO 62), .inl (cI, 30, .inl MO_hIs)), ((aMO 52), .inl (cI, 8, .inl g25)), ((aMO 65), .inl (cI, 64, .inl MO_waysAt)), ((aMO 12), .inl (cI, 2, .inl MO_doors)), ((aMO 17), .inl (cI, 24, .inl MO_one)), ((aMO 18), .inl (cI, 24, .inl MO_other)), ((aMO 53), .inl (cI, 8, .inl MO_waysThen)), ((aMO 66), .inl (cI, 64, .inl MO_waysOn))] := hD
        clear eg25
        obtain ⟨y26, by26, ry26, ey26⟩ := zi_inc (x := v2_2) (k := 1) (a := 1) (b := 8) bx7f_v2_2 (by decide) (by decide) (by decide) (by decide) (by decide)
        refine lv_iinc (v := y26) (lv' := [(2, .int y26), (0, .ref MO), (1, .int x0)]) hx hb dX12_layWalks_26 hl (k := 0) rfl ey26 (by decide) rfl (fun ls hl => ?_)
        refine lv_goto (tgt := 2) hx hb dX12_layWalks_29 (by decide) ?_
        exact ih2 H locs ls y26 g25 (zB_w by26 (by decide) (by decide)) sMO_rooms_0_k2 sMO_creaks_0_k2 sMO_doors_0_k2 sMO_one_0_k2 sMO_other_0_k2 (zM_us (k := 1) hm2 ry26 (by decide)) hP hD hS (lv_sub hl [0, 1, 2] rfl)
  refine lv_istore_n (lv' := [(2, .int 0), (0, .ref MO), (1, .int x0)]) hx hb dX12_layWalks_1 rfl hl (by decide) rfl (fun ls hl => ?_)
  exact j2 9 H locs ls 0 MO_waysTo (zB_w (show zB 0 0 0 from ⟨by decide, by decide⟩) (by decide) (by decide)) s_MO_rooms_0 s_MO_creaks_0 s_MO_doors_0 s_MO_one_0 s_MO_other_0 (zM_ui (show zB 0 0 0 from ⟨by decide, by decide⟩) (by decide)) hP hD hS (lv_sub hl [0, 1, 2] rfl)
set_option maxHeartbeats 4000000 in
set_option maxRecDepth 100000 in
theorem c_X12_walksBy (l : Launch) (D : va_G) (cI : ClassId) (cB : ClassId) (cL : ClassId) (cZ : ClassId) (cG : ClassId) (MO : Nat) (x0 : Int32) (x1 : Int32) (aMO : Nat → Nat) (MO_taped : Int32) (MO_size : Int32) (MO_faultKind : Int32) (MO_faultPlace : Int32) (MO_at : Int32) (MO_end : Int32) (MO_token : Int32) (MO_number : Int32) (MO_name : Int64) (MO_bank : Int32) (MO_rb : Int32) (MO_codes : Int32) (MO_within : Int32) (MO_piled : Int32) (MO_unitsInRule : Int32) (MO_askThing : Int32) (MO_acts : Int32) (MO_undone : Int32) (MO_laid : Int32) (MO_heards : Int32) (MO_time : Int32) (MO_waysAt : Nat → Int32) (MO_waysOn : Nat → Int32) (b_x0 : zB x0 0 7) (b_x1 : zB x1 0 7) (b_MO_taped : zB MO_taped 0 1600) (b_MO_size : zB MO_size 0 1600) (b_MO_faultKind : zB MO_faultKind 0 5) (b_MO_at : zB MO_at 0 1600) (b_MO_end : zB MO_end 0 1600) (b_MO_token : zB MO_token 0 5) (b_MO_bank : zB MO_bank 0 1) (b_MO_rb : zB MO_rb 0 1) (b_MO_codes : zB MO_codes 0 1120) (b_MO_within : zB MO_within 0 7) (b_MO_piled : zB MO_piled 0 89) (b_MO_unitsInRule : zB MO_unitsInRule 0 30) (b_MO_askThing : zB MO_askThing 0 5) (b_MO_acts : zB MO_acts 0 40) (b_MO_undone : zB MO_undone 0 40) (b_MO_laid : zB MO_laid 0 8) (b_MO_heards : zB MO_heards 0 30) (b_MO_time : zB MO_time 0 100000) : Met l yX12_walksBy wsX12_walksBy ({ frames := 0, cells := 0, slots := 0, locals := 0 }) (xr D [(cI, .int), (cB, .byte), (cL, .long), (cZ, .boolean), (cG, .array .int)] [(MO, .inr (12, oX12 aMO MO_taped MO_size MO_faultKind MO_faultPlace MO_at MO_end MO_token MO_number MO_name MO_bank MO_rb MO_codes MO_within MO_piled MO_unitsInRule MO_askThing MO_acts MO_undone MO_laid MO_heards MO_time)), ((aMO 65), .inl (cI, 64, .inl MO_waysAt)), ((aMO 66), .inl (cI, 64, .inl MO_waysOn))] [.ref MO, .int x0, .int x1]) (vp_Si (fun r => True)) 0 0 (fun _ => False) := by
  refine Met.ofW (cc := cX12_walksBy) (maxL := 3) (ret := (some .int)) (by decide) rfl ?_
  intro p e s m args below meth c s₁ B hml hv
  obtain ⟨rfl, hP, hK⟩ := hv
  have hx := B.exec
  have hb := B.bytes
  have hr := B.returns
  have hts := atoms_spec (ws := wsX12_walksBy) B.pre
  have hown : s.vm.findClass RX12 = some m.cls := findClass_of_methodNamed B.named
  have hlocks := B.notSynchronized
  clear B
  have hl := lv_entry ([.ref MO, .int x0, .int x1]) (n := 3) (Nat.le_of_ble_eq_true rfl)
  rw [lg_entry_eq]
  generalize (lg_sl ([.ref MO, .int x0, .int x1]) ++ List.replicate (3 - (lg_sl ([.ref MO, .int x0, .int x1])).length) Slot.unset).toArray = ls at hl ⊢
  replace hl : lv_has ls 3 [(0, .ref MO), (1, .int x0), (2, .int x1)] := hl
  refine lv_aload_n hx hb dX12_walksBy_0 rfl (lv_at hl 0 rfl) ?_
  refine va_get (D := D) (ci := 12) (v := .ref (aMO 65)) (C := RX12) (T := TX12) (N := 71) hx hb hts iw_X12_walksBy_X12 hown hK hP 0 rfl rfl 65 (by decide) (hts (.fieldLink RX12 155 "SoldHouseModel" "waysAt" "[I") (List.mem_of_getElem? (i := 1) rfl)) (fun _ h9 => h9) rfl dX12_walksBy_1 ?_
  refine lv_bipush (v := 8) hx hb dX12_walksBy_4 (by decide) ?_
  refine lv_iload_n hx hb dX12_walksBy_6 rfl (lv_at hl 1 rfl) ?_
  refine lv_imul hx hb dX12_walksBy_7 ?_
  refine zi_top (a := 0) (b := 56) (zB_mul (show zB 8 8 8 from ⟨by decide, by decide⟩) b_x0 (by decide) (by decide) (by decide) (by decide) (by decide)) (fun y7 by7 => ?_)
  refine lv_iload_n hx hb dX12_walksBy_8 rfl (lv_at hl 2 rfl) ?_
  refine lv_iadd hx hb dX12_walksBy_9 ?_
  refine zi_top (a := 0) (b := 63) (zB_add by7 b_x1 (by decide) (by decide) (by decide) (by decide)) (fun y9 by9 => ?_)
  refine va_iald hx hb hK hP 1 0 rfl rfl (zB_in by9 (by decide) (by decide)) dX12_walksBy_10 ?_
  refine lv_topi (fun y10 _ => ?_)
  refine lv_aload_n hx hb dX12_walksBy_11 rfl (lv_at hl 0 rfl) ?_
  refine va_get (D := D) (ci := 12) (v := .ref (aMO 66)) (C := RX12) (T := TX12) (N := 71) hx hb hts iw_X12_walksBy_X12 hown hK hP 0 rfl rfl 66 (by decide) (hts (.fieldLink RX12 158 "SoldHouseModel" "waysOn" "[I") (List.mem_of_getElem? (i := 2) rfl)) (fun _ h9 => h9) rfl dX12_walksBy_12 ?_
  refine lv_bipush (v := 8) hx hb dX12_walksBy_15 (by decide) ?_
  refine lv_iload_n hx hb dX12_walksBy_17 rfl (lv_at hl 1 rfl) ?_
  refine lv_imul hx hb dX12_walksBy_18 ?_
  refine zi_top (a := 0) (b := 56) (zB_mul (show zB 8 8 8 from ⟨by decide, by decide⟩) b_x0 (by decide) (by decide) (by decide) (by decide) (by decide)) (fun y18 by18 => ?_)
  refine lv_iload_n hx hb dX12_walksBy_19 rfl (lv_at hl 2 rfl) ?_
  refine lv_iadd hx hb dX12_walksBy_20 ?_
  refine zi_top (a := 0) (b := 63) (zB_add by18 b_x1 (by decide) (by decide) (by decide) (by decide)) (fun y20 by20 => ?_)
  refine va_iald hx hb hK hP 2 0 rfl rfl (zB_in by20 (by decide) (by decide)) dX12_walksBy_21 ?_
  refine lv_topi (fun y21 _ => ?_)
  refine lv_imul hx hb dX12_walksBy_22 ?_
  refine lv_topi (fun y22 _ => ?_)
  exact W.iret (v := y22) hx hb hr (fun t ht hW => ⟨y22, rfl, trivial, ht⟩) (fun q hq => by cases hq) dX12_walksBy_23
