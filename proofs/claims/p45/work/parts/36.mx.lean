set_option maxHeartbeats 4000000 in
set_option maxRecDepth 100000 in
theorem c_X12_ways (l : Launch) (D : va_G) (cI : ClassId) (cB : ClassId) (cL : ClassId) (cZ : ClassId) (cG : ClassId) (MO : Nat) (x0 : Int32) (x1 : Int32) (aMO : Nat → Nat) (MO_taped : Int32) (MO_size : Int32) (MO_faultKind : Int32) (MO_faultPlace : Int32) (MO_at : Int32) (MO_end : Int32) (MO_token : Int32) (MO_number : Int32) (MO_name : Int64) (MO_bank : Int32) (MO_rb : Int32) (MO_codes : Int32) (MO_within : Int32) (MO_piled : Int32) (MO_unitsInRule : Int32) (MO_askThing : Int32) (MO_acts : Int32) (MO_undone : Int32) (MO_laid : Int32) (MO_heards : Int32) (MO_time : Int32) (MO_rooms : Nat → Int32) (MO_table : Nat → Int32) (MO_waysTo : Nat → Int32) (MO_doors : Nat → Int32) (MO_one : Nat → Int32) (MO_other : Nat → Int32) (sz : Nat) (b_MO_taped : zB MO_taped 0 1600) (b_MO_size : zB MO_size 0 1600) (b_MO_faultKind : zB MO_faultKind 0 5) (b_MO_at : zB MO_at 0 1600) (b_MO_end : zB MO_end 0 1600) (b_MO_token : zB MO_token 0 5) (b_MO_bank : zB MO_bank 0 1) (b_MO_rb : zB MO_rb 0 1) (b_MO_codes : zB MO_codes 0 1120) (b_MO_within : zB MO_within 0 7) (b_MO_piled : zB MO_piled 0 89) (b_MO_unitsInRule : zB MO_unitsInRule 0 30) (b_MO_askThing : zB MO_askThing 0 5) (b_MO_acts : zB MO_acts 0 40) (b_MO_undone : zB MO_undone 0 40) (b_MO_laid : zB MO_laid 0 8) (b_MO_heards : zB MO_heards 0 30) (b_MO_time : zB MO_time 0 100000) (s_MO_rooms_0 : zA MO_rooms 0 2 0 8) (s_MO_table_0 : zA MO_table 0 64 0 10000) (s_MO_doors_0 : zA MO_doors 0 2 0 12) (s_MO_one_0 : zA MO_one 0 24 0 7) (s_MO_other_0 : zA MO_other 0 24 0 7) : Met l yX12_ways wsX12_ways ({ frames := 3, cells := 0, slots := 0, locals := 65 }) (xp D [(cI, .int), (cB, .byte), (cL, .long), (cZ, .boolean), (cG, .array .int)] [(MO, .inr (12, oX12 aMO MO_taped MO_size MO_faultKind MO_faultPlace MO_at MO_end MO_token MO_number MO_name MO_bank MO_rb MO_codes MO_within MO_piled MO_unitsInRule MO_askThing MO_acts MO_undone MO_laid MO_heards MO_time)), ((aMO 11), .inl (cI, 2, .inl MO_rooms)), ((aMO 43), .inl (cI, 64, .inl MO_table)), ((aMO 52), .inl (cI, 8, .inl MO_waysTo)), ((aMO 12), .inl (cI, 2, .inl MO_doors)), ((aMO 17), .inl (cI, 24, .inl MO_one)), ((aMO 18), .inl (cI, 24, .inl MO_other))] sz [] [.ref MO, .int x0, .int x1]) (va_Qi (fun (r : Int32) (_ : Unit) => True) (fun (_ : Unit) (t : State) => ∃ (nMOwaysTo : Nat → Int32), xB D (va_A [(MO, .inr (12, oX12 aMO MO_taped MO_size MO_faultKind MO_faultPlace MO_at MO_end MO_token MO_number MO_name MO_bank MO_rb MO_codes MO_within MO_piled MO_unitsInRule MO_askThing MO_acts MO_undone MO_laid MO_heards MO_time)), ((aMO 11), .inl (cI, 2, .inl MO_rooms)), ((aMO 43), .inl (cI, 64, .inl MO_table)), ((aMO 52), .inl (cI, 8, .inl MO_waysTo)), ((aMO 12), .inl (cI, 2, .inl MO_doors)), ((aMO 17), .inl (cI, 24, .inl MO_one)), ((aMO 18), .inl (cI, 24, .inl MO_other))] sz) [(MO, .inr (12, oX12 aMO MO_taped MO_size MO_faultKind MO_faultPlace MO_at MO_end MO_token MO_number MO_name MO_bank MO_rb MO_codes MO_within MO_piled MO_unitsInRule MO_askThing MO_acts MO_undone MO_laid MO_heards MO_time)), ((aMO 11), .inl (cI, 2, .inl MO_rooms)), ((aMO 43), .inl (cI, 64, .inl MO_table)), ((aMO 52), .inl (cI, 8, .inl nMOwaysTo)), ((aMO 12), .inl (cI, 2, .inl MO_doors)), ((aMO 17), .inl (cI, 24, .inl MO_one)), ((aMO 18), .inl (cI, 24, .inl MO_other))] t) (va_A [(MO, .inr (12, oX12 aMO MO_taped MO_size MO_faultKind MO_faultPlace MO_at MO_end MO_token MO_number MO_name MO_bank MO_rb MO_codes MO_within MO_piled MO_unitsInRule MO_askThing MO_acts MO_undone MO_laid MO_heards MO_time)), ((aMO 11), .inl (cI, 2, .inl MO_rooms)), ((aMO 43), .inl (cI, 64, .inl MO_table)), ((aMO 52), .inl (cI, 8, .inl MO_waysTo)), ((aMO 12), .inl (cI, 2, .inl MO_doors)), ((aMO 17), .inl (cI, 24, .inl MO_one)), ((aMO 18), .inl (cI, 24, .inl MO_other))] sz)) 0 0 (va_A [(MO, .inr (12, oX12 aMO MO_taped MO_size MO_faultKind MO_faultPlace MO_at MO_end MO_token MO_number MO_name MO_bank MO_rb MO_codes MO_within MO_piled MO_unitsInRule MO_askThing MO_acts MO_undone MO_laid MO_heards MO_time)), ((aMO 11), .inl (cI, 2, .inl MO_rooms)), ((aMO 43), .inl (cI, 64, .inl MO_table)), ((aMO 52), .inl (cI, 8, .inl MO_waysTo)), ((aMO 12), .inl (cI, 2, .inl MO_doors)), ((aMO 17), .inl (cI, 24, .inl MO_one)), ((aMO 18), .inl (cI, 24, .inl MO_other))] sz) := by
  refine Met.ofW (cc := cX12_ways) (maxL := 6) (ret := (some .int)) (by decide) rfl ?_
  intro p e s m args below meth c s₁ B hml hv
  obtain ⟨rfl, hsz, hP, hK, hD0, hNw⟩ := hv
  have hx := B.exec
  have hb := B.bytes
  have hr := B.returns
  have hts := atoms_spec (ws := wsX12_ways) B.pre
  have hown : s.vm.findClass RX12 = some m.cls := findClass_of_methodNamed B.named
  have hlocks := B.notSynchronized
  clear B
  subst hsz
  have hD := hD0.self (sz := s.heap.size)
  clear hD0 hNw
  generalize hAe : va_A [(MO, .inr (12, oX12 aMO MO_taped MO_size MO_faultKind MO_faultPlace MO_at MO_end MO_token MO_number MO_name MO_bank MO_rb MO_codes MO_within MO_piled MO_unitsInRule MO_askThing MO_acts MO_undone MO_laid MO_heards MO_time)), ((aMO 11), .inl (cI, 2, .inl MO_rooms)), ((aMO 43), .inl (cI, 64, .inl MO_table)), ((aMO 52), .inl (cI, 8, .inl MO_waysTo)), ((aMO 12), .inl (cI, 2, .inl MO_doors)), ((aMO 17), .inl (cI, 24, .inl MO_one)), ((aMO 18), .inl (cI, 24, .inl MO_other))] s.heap.size = A at hD ⊢
  have hA : ∀ q : Nat, s.heap.size ≤ q → A q := fun q h => by rw [← hAe]; exact Or.inr h
  have hS : va_S A s.heap s.heap [] := va_S.rf
  clear hAe
  obtain ⟨H, hH⟩ : ∃ H : Heap, H = s.heap := ⟨_, rfl⟩
  obtain ⟨locs, hlocs⟩ : ∃ L : List Loc, L = [] := ⟨_, rfl⟩
  replace hP : va_P D classes [(MO, .inr (12, oX12 aMO MO_taped MO_size MO_faultKind MO_faultPlace MO_at MO_end MO_token MO_number MO_name MO_bank MO_rb MO_codes MO_within MO_piled MO_unitsInRule MO_askThing MO_acts MO_undone MO_laid MO_heards MO_time)), ((aMO 11), .inl (cI, 2, .inl MO_rooms)), ((aMO 43), .inl (cI, 64, .inl MO_table)), ((aMO 52), .inl (cI, 8, .inl MO_waysTo)), ((aMO 12), .inl (cI, 2, .inl MO_doors)), ((aMO 17), .inl (cI, 24, .inl MO_one)), ((aMO 18), .inl (cI, 24, .inl MO_other))] H := by rw [hH]; exact hP
  replace hS : va_S A s.heap H locs := by rw [hH, hlocs]; exact hS
  rw [← hH, ← hlocs]
  clear hlocs hH
  have hl := lv_entry ([.ref MO, .int x0, .int x1]) (n := 6) (Nat.le_of_ble_eq_true rfl)
  rw [lg_entry_eq]
  generalize (lg_sl ([.ref MO, .int x0, .int x1]) ++ List.replicate (6 - (lg_sl ([.ref MO, .int x0, .int x1])).length) Slot.unset).toArray = ls at hl ⊢
  replace hl : lv_has ls 6 [(0, .ref MO), (1, .int x0), (2, .int x1)] := hl
  refine zz_abs (R := ({ frames := 3, cells := 0, slots := 0, locals := 65 } : Room)) (fun Q up => ?_)
  refine lv_aload_n hx hb dX12_ways_0 rfl (lv_at hl 0 rfl) ?_
  refine lv_iload_n hx hb dX12_ways_1 rfl (lv_at hl 1 rfl) ?_
  refine lv_iload_n hx hb dX12_ways_2 rfl (lv_at hl 2 rfl) ?_
  have hPc := hP.sub (ws' := [(MO, .inr (12, oX12 aMO MO_taped MO_size MO_faultKind MO_faultPlace MO_at MO_end MO_token MO_number MO_name MO_bank MO_rb MO_codes MO_within MO_piled MO_unitsInRule MO_askThing MO_acts MO_undone MO_laid MO_heards MO_time)), ((aMO 11), .inl (cI, 2, .inl MO_rooms))]) [0, 1] rfl
  refine vp_callSi (va_runV (As := [.int x0, .int x1]) (rest := []) ⟨hx, hb, hml, hown, hts⟩ (c_X12_areRooms l D cI cB cL cZ cG MO x0 x1 aMO MO_taped MO_size MO_faultKind MO_faultPlace MO_at MO_end MO_token MO_number MO_name MO_bank MO_rb MO_codes MO_within MO_piled MO_unitsInRule MO_askThing MO_acts MO_undone MO_laid MO_heards MO_time MO_rooms b_MO_taped b_MO_size b_MO_faultKind b_MO_at b_MO_end b_MO_token b_MO_bank b_MO_rb b_MO_codes b_MO_within b_MO_piled b_MO_unitsInRule b_MO_askThing b_MO_acts b_MO_undone b_MO_laid b_MO_heards b_MO_time s_MO_rooms_0) (cwV 2 hts gX12_ways_X12_areRooms rfl rfl rfl (by decide +kernel) ⟨Nat.le_of_ble_eq_true rfl, Nat.le_of_ble_eq_true rfl⟩) ⟨xr_blind, va_recv hK hP (ci := 12) (q0 := 0) rfl rfl, fun U hU hW => xr_mk hU hW hPc hK⟩ rfl rfl hl.1 rfl (lv_room (Nat.le_of_ble_eq_true rfl)) dX12_ways_3 ⟨Nat.le_of_ble_eq_true rfl, Nat.le_of_ble_eq_true rfl⟩).run (fun r3 hr3 => ?_)
  clear hPc
  rcases hr3 with rfl | ⟨rfl, hr3_1_0, hr3_1_1⟩
  · refine lv_if_eq (tgt := 21) hx hb dX12_ways_6 (by decide) (fun _ => ?_) (fun c6 => absurd (by decide) c6)
    refine lv_iconst (v := (-1)) hx hb dX12_ways_21 (by decide) ?_
    exact up _ _ _ (W.iret (v := (-1)) hx hb hr (fun t ht hW => ⟨⟨(-1), (), rfl, trivial, ⟨MO_waysTo, by rw [ht]; exact hP, hD⟩⟩, hS.F ht⟩) hS.2.2 dX12_ways_22)
  · refine lv_if_eq (tgt := 21) hx hb dX12_ways_6 (by decide) (fun c6 => absurd c6 (by decide)) (fun _ => ?_)
    refine lv_aload_n hx hb dX12_ways_9 rfl (lv_at hl 0 rfl) ?_
    refine lv_iload_n hx hb dX12_ways_10 rfl (lv_at hl 1 rfl) ?_
    refine lv_iload_n hx hb dX12_ways_11 rfl (lv_at hl 2 rfl) ?_
    have hPc := hP.sub (ws' := [(MO, .inr (12, oX12 aMO MO_taped MO_size MO_faultKind MO_faultPlace MO_at MO_end MO_token MO_number MO_name MO_bank MO_rb MO_codes MO_within MO_piled MO_unitsInRule MO_askThing MO_acts MO_undone MO_laid MO_heards MO_time)), ((aMO 43), .inl (cI, 64, .inl MO_table))]) [0, 2] rfl
    refine vp_callSi (va_runV (As := [.int x0, .int x1]) (rest := []) ⟨hx, hb, hml, hown, hts⟩ (c_X12_farOf l D cI cB cL cZ cG MO x0 x1 aMO MO_taped MO_size MO_faultKind MO_faultPlace MO_at MO_end MO_token MO_number MO_name MO_bank MO_rb MO_codes MO_within MO_piled MO_unitsInRule MO_askThing MO_acts MO_undone MO_laid MO_heards MO_time MO_table hr3_1_0 hr3_1_1 b_MO_taped b_MO_size b_MO_faultKind b_MO_at b_MO_end b_MO_token b_MO_bank b_MO_rb b_MO_codes b_MO_within b_MO_piled b_MO_unitsInRule b_MO_askThing b_MO_acts b_MO_undone b_MO_laid b_MO_heards b_MO_time s_MO_table_0) (cwV 2 hts gX12_ways_X12_farOf rfl rfl rfl (by decide +kernel) ⟨Nat.le_of_ble_eq_true rfl, Nat.le_of_ble_eq_true rfl⟩) ⟨xr_blind, va_recv hK hP (ci := 12) (q0 := 0) rfl rfl, fun U hU hW => xr_mk hU hW hPc hK⟩ rfl rfl hl.1 rfl (lv_room (Nat.le_of_ble_eq_true rfl)) dX12_ways_12 ⟨Nat.le_of_ble_eq_true rfl, Nat.le_of_ble_eq_true rfl⟩).run (fun r12 hr12 => ?_)
    clear hPc
    refine lv_sipush (v := 10000) hx hb dX12_ways_15 (by decide) ?_
    refine lv_icmp_ne (tgt := 23) hx hb dX12_ways_18 (by decide) (fun c18 => ?_) (fun c18 => ?_)
    · have bn18t_r12 : zB r12 0 9999 := zB_neH c18 hr12 (show zB 10000 10000 10000 from ⟨by decide, by decide⟩) (by decide)
      refine lv_iconst (v := 0) hx hb dX12_ways_23 (by decide) ?_
      have j25 : ∀ (n25 : Nat) (H : Heap) (locs : List Loc) (ls : Array Slot) (v25_3 : Int32) (g25_aMO52 : Nat → Int32), zB v25_3 0 8 → zA MO_rooms 0 2 0 8 → zA MO_table 0 64 0 10000 → zA MO_doors 0 2 0 12 → zA MO_one 0 24 0 7 → zA MO_other 0 24 0 7 → (8 + 1 - v25_3.toInt) ≤ (n25 : Int) → va_P D classes [(MO, .inr (12, oX12 aMO MO_taped MO_size MO_faultKind MO_faultPlace MO_at MO_end MO_token MO_number MO_name MO_bank MO_rb MO_codes MO_within MO_piled MO_unitsInRule MO_askThing MO_acts MO_undone MO_laid MO_heards MO_time)), ((aMO 11), .inl (cI, 2, .inl MO_rooms)), ((aMO 43), .inl (cI, 64, .inl MO_table)), ((aMO 52), .inl (cI, 8, .inl g25_aMO52)), ((aMO 12), .inl (cI, 2, .inl MO_doors)), ((aMO 17), .inl (cI, 24, .inl MO_one)), ((aMO 18), .inl (cI, 24, .inl MO_other))] H → va_D A [(MO, .inr (12, oX12 aMO MO_taped MO_size MO_faultKind MO_faultPlace MO_at MO_end MO_token MO_number MO_name MO_bank MO_rb MO_codes MO_within MO_piled MO_unitsInRule MO_askThing MO_acts MO_undone MO_laid MO_heards MO_time)), ((aMO 11), .inl (cI, 2, .inl MO_rooms)), ((aMO 43), .inl (cI, 64, .inl MO_table)), ((aMO 52), .inl (cI, 8, .inl g25_aMO52)), ((aMO 12), .inl (cI, 2, .inl MO_doors)), ((aMO 17), .inl (cI, 24, .inl MO_one)), ((aMO 18), .inl (cI, 24, .inl MO_other))] → va_S A s.heap H locs → lv_has ls 6 [(3, .int v25_3), (0, .ref MO), (1, .int x0), (2, .int x1)] → W p l e ({ frames := 3, cells := 0, slots := 0, locals := 65 } : Room) s m ([.ref MO, .int x0, .int x1] : List Value).toArray below meth c H locs 0 0 Q (F0 m 25 ls []) := by
        intro n25
        induction n25 with
        | zero => intro H locs ls v25_3 g25_aMO52 bv25_3_k25 sMO_rooms_0_k25 sMO_table_0_k25 sMO_doors_0_k25 sMO_one_0_k25 sMO_other_0_k25 hm25 hP hD hS hl; exact zM_u0 bv25_3_k25 hm25
        | succ n25 ih25 =>
          intro H locs ls v25_3 g25_aMO52 bv25_3_k25 sMO_rooms_0_k25 sMO_table_0_k25 sMO_doors_0_k25 sMO_one_0_k25 sMO_other_0_k25 hm25 hP hD hS hl
          refine lv_iload_n hx hb dX12_ways_25 rfl (lv_at hl 0 rfl) ?_
          refine lv_bipush (v := 8) hx hb dX12_ways_26 (by decide) ?_
          refine lv_icmp_ge (tgt := 53) hx hb dX12_ways_28 (by decide) (fun c28 => ?_) (fun c28 => ?_)
          · have by28t_v25_3 : zB v25_3 8 8 := zB_lev (ze c28) (show zB 8 8 8 from ⟨by decide, by decide⟩) bv25_3_k25 (by decide)
            refine lv_iconst (v := 1) hx hb dX12_ways_53 (by decide) ?_
            have j55 : ∀ (n55 : Nat) (H : Heap) (locs : List Loc) (ls : Array Slot) (v55_3 : Int32) (g55_aMO52 : Nat → Int32), zB v55_3 1 10001 → zA MO_rooms 0 2 0 8 → zA MO_table 0 64 0 10000 → zA MO_doors 0 2 0 12 → zA MO_one 0 24 0 7 → zA MO_other 0 24 0 7 → (10001 + 1 - v55_3.toInt) ≤ (n55 : Int) → va_P D classes [(MO, .inr (12, oX12 aMO MO_taped MO_size MO_faultKind MO_faultPlace MO_at MO_end MO_token MO_number MO_name MO_bank MO_rb MO_codes MO_within MO_piled MO_unitsInRule MO_askThing MO_acts MO_undone MO_laid MO_heards MO_time)), ((aMO 11), .inl (cI, 2, .inl MO_rooms)), ((aMO 43), .inl (cI, 64, .inl MO_table)), ((aMO 52), .inl (cI, 8, .inl g55_aMO52)), ((aMO 12), .inl (cI, 2, .inl MO_doors)), ((aMO 17), .inl (cI, 24, .inl MO_one)), ((aMO 18), .inl (cI, 24, .inl MO_other))] H → va_D A [(MO, .inr (12, oX12 aMO MO_taped MO_size MO_faultKind MO_faultPlace MO_at MO_end MO_token MO_number MO_name MO_bank MO_rb MO_codes MO_within MO_piled MO_unitsInRule MO_askThing MO_acts MO_undone MO_laid MO_heards MO_time)), ((aMO 11), .inl (cI, 2, .inl MO_rooms)), ((aMO 43), .inl (cI, 64, .inl MO_table)), ((aMO 52), .inl (cI, 8, .inl g55_aMO52)), ((aMO 12), .inl (cI, 2, .inl MO_doors)), ((aMO 17), .inl (cI, 24, .inl MO_one)), ((aMO 18), .inl (cI, 24, .inl MO_other))] → va_S A s.heap H locs → lv_has ls 6 [(3, .int v55_3), (0, .ref MO), (1, .int x0), (2, .int x1)] → W p l e ({ frames := 3, cells := 0, slots := 0, locals := 65 } : Room) s m ([.ref MO, .int x0, .int x1] : List Value).toArray below meth c H locs 0 0 Q (F0 m 55 ls []) := by
              intro n55
              induction n55 with
              | zero => intro H locs ls v55_3 g55_aMO52 bv55_3_k55 sMO_rooms_0_k55 sMO_table_0_k55 sMO_doors_0_k55 sMO_one_0_k55 sMO_other_0_k55 hm55 hP hD hS hl; exact zM_u0 bv55_3_k55 hm55
              | succ n55 ih55 =>
                intro H locs ls v55_3 g55_aMO52 bv55_3_k55 sMO_rooms_0_k55 sMO_table_0_k55 sMO_doors_0_k55 sMO_one_0_k55 sMO_other_0_k55 hm55 hP hD hS hl
                refine lv_iload_n hx hb dX12_ways_55 rfl (lv_at hl 0 rfl) ?_
                refine lv_aload_n hx hb dX12_ways_56 rfl (lv_at hl 1 rfl) ?_
                refine lv_iload_n hx hb dX12_ways_57 rfl (lv_at hl 2 rfl) ?_
                refine lv_iload_n hx hb dX12_ways_58 rfl (lv_at hl 3 rfl) ?_
                have hPc := hP.sub (ws' := [(MO, .inr (12, oX12 aMO MO_taped MO_size MO_faultKind MO_faultPlace MO_at MO_end MO_token MO_number MO_name MO_bank MO_rb MO_codes MO_within MO_piled MO_unitsInRule MO_askThing MO_acts MO_undone MO_laid MO_heards MO_time)), ((aMO 43), .inl (cI, 64, .inl MO_table))]) [0, 2] rfl
                refine vp_callSi (va_runV (As := [.int x0, .int x1]) (rest := [.int v55_3]) ⟨hx, hb, hml, hown, hts⟩ (c_X12_farOf l D cI cB cL cZ cG MO x0 x1 aMO MO_taped MO_size MO_faultKind MO_faultPlace MO_at MO_end MO_token MO_number MO_name MO_bank MO_rb MO_codes MO_within MO_piled MO_unitsInRule MO_askThing MO_acts MO_undone MO_laid MO_heards MO_time MO_table hr3_1_0 hr3_1_1 b_MO_taped b_MO_size b_MO_faultKind b_MO_at b_MO_end b_MO_token b_MO_bank b_MO_rb b_MO_codes b_MO_within b_MO_piled b_MO_unitsInRule b_MO_askThing b_MO_acts b_MO_undone b_MO_laid b_MO_heards b_MO_time sMO_table_0_k55) (cwV 2 hts gX12_ways_X12_farOf rfl rfl rfl (by decide +kernel) ⟨Nat.le_of_ble_eq_true rfl, Nat.le_of_ble_eq_true rfl⟩) ⟨xr_blind, va_recv hK hP (ci := 12) (q0 := 0) rfl rfl, fun U hU hW => xr_mk hU hW hPc hK⟩ rfl rfl hl.1 rfl (lv_room (Nat.le_of_ble_eq_true rfl)) dX12_ways_59 ⟨Nat.le_of_ble_eq_true rfl, Nat.le_of_ble_eq_true rfl⟩).run (fun r59 hr59 => ?_)
                clear hPc
                refine lv_icmp_gt (tgt := 166) hx hb dX12_ways_62 (by decide) (fun c62 => ?_) (fun c62 => ?_)
                · refine lv_aload_n hx hb dX12_ways_166 rfl (lv_at hl 1 rfl) ?_
                  refine va_get (D := D) (ci := 12) (v := .ref (aMO 52)) (C := RX12) (T := TX12) (N := 71) hx hb hts iw_X12_ways_X12 hown hK hP 0 rfl rfl 52 (by decide) (hts (.fieldLink RX12 116 "SoldHouseModel" "waysTo" "[I") (List.mem_of_getElem? (i := 1) rfl)) (fun _ h9 => h9) rfl dX12_ways_167 ?_
                  refine lv_iload_n hx hb dX12_ways_170 rfl (lv_at hl 3 rfl) ?_
                  refine va_iald hx hb hK hP 3 0 rfl rfl (zB_in hr3_1_1 (by decide) (by decide)) dX12_ways_171 ?_
                  refine lv_topi (fun y171 _ => ?_)
                  exact up _ _ _ (W.iret (v := y171) hx hb hr (fun t ht hW => ⟨⟨y171, (), rfl, trivial, ⟨g55_aMO52, by rw [ht]; exact hP, hD⟩⟩, hS.F ht⟩) hS.2.2 dX12_ways_172)
                · have bx62f_v55_3 : zB v55_3 1 10000 := zB_leu (zg c62) bv55_3_k55 hr59 (by decide)
                  have by62f_r59 : zB r59 1 10000 := zB_lev (zg c62) bx62f_v55_3 hr59 (by decide)
                  refine lv_iconst (v := 0) hx hb dX12_ways_65 (by decide) ?_
                  have j68 : ∀ (n68 : Nat) (H : Heap) (locs : List Loc) (ls : Array Slot) (v68_4 : Int32) (g68_aMO52 : Nat → Int32), zB v68_4 0 8 → zA MO_rooms 0 2 0 8 → zA MO_table 0 64 0 10000 → zA MO_doors 0 2 0 12 → zA MO_one 0 24 0 7 → zA MO_other 0 24 0 7 → (8 + 1 - v68_4.toInt) ≤ (n68 : Int) → va_P D classes [(MO, .inr (12, oX12 aMO MO_taped MO_size MO_faultKind MO_faultPlace MO_at MO_end MO_token MO_number MO_name MO_bank MO_rb MO_codes MO_within MO_piled MO_unitsInRule MO_askThing MO_acts MO_undone MO_laid MO_heards MO_time)), ((aMO 11), .inl (cI, 2, .inl MO_rooms)), ((aMO 43), .inl (cI, 64, .inl MO_table)), ((aMO 52), .inl (cI, 8, .inl g68_aMO52)), ((aMO 12), .inl (cI, 2, .inl MO_doors)), ((aMO 17), .inl (cI, 24, .inl MO_one)), ((aMO 18), .inl (cI, 24, .inl MO_other))] H → va_D A [(MO, .inr (12, oX12 aMO MO_taped MO_size MO_faultKind MO_faultPlace MO_at MO_end MO_token MO_number MO_name MO_bank MO_rb MO_codes MO_within MO_piled MO_unitsInRule MO_askThing MO_acts MO_undone MO_laid MO_heards MO_time)), ((aMO 11), .inl (cI, 2, .inl MO_rooms)), ((aMO 43), .inl (cI, 64, .inl MO_table)), ((aMO 52), .inl (cI, 8, .inl g68_aMO52)), ((aMO 12), .inl (cI, 2, .inl MO_doors)), ((aMO 17), .inl (cI, 24, .inl MO_one)), ((aMO 18), .inl (cI, 24, .inl MO_other))] → va_S A s.heap H locs → lv_has ls 6 [(4, .int v68_4), (3, .int v55_3), (0, .ref MO), (1, .int x0), (2, .int x1)] → W p l e ({ frames := 3, cells := 0, slots := 0, locals := 65 } : Room) s m ([.ref MO, .int x0, .int x1] : List Value).toArray below meth c H locs 0 0 Q (F0 m 68 ls []) := by
                    intro n68
                    induction n68 with
                    | zero => intro H locs ls v68_4 g68_aMO52 bv68_4_k68 sMO_rooms_0_k68 sMO_table_0_k68 sMO_doors_0_k68 sMO_one_0_k68 sMO_other_0_k68 hm68 hP hD hS hl; exact zM_u0 bv68_4_k68 hm68
                    | succ n68 ih68 =>
                      intro H locs ls v68_4 g68_aMO52 bv68_4_k68 sMO_rooms_0_k68 sMO_table_0_k68 sMO_doors_0_k68 sMO_one_0_k68 sMO_other_0_k68 hm68 hP hD hS hl
                      refine lv_iload hx hb dX12_ways_68 (lv_at hl 0 rfl) ?_
                      refine lv_aload_n hx hb dX12_ways_70 rfl (lv_at hl 2 rfl) ?_
                      have hPc := hP.sub (ws' := [(MO, .inr (12, oX12 aMO MO_taped MO_size MO_faultKind MO_faultPlace MO_at MO_end MO_token MO_number MO_name MO_bank MO_rb MO_codes MO_within MO_piled MO_unitsInRule MO_askThing MO_acts MO_undone MO_laid MO_heards MO_time)), ((aMO 11), .inl (cI, 2, .inl MO_rooms))]) [0, 1] rfl
                      refine vp_callSi (va_runV (As := []) (rest := [.int v68_4]) ⟨hx, hb, hml, hown, hts⟩ (c_X12_places l D cI cB cL cZ cG MO aMO MO_taped MO_size MO_faultKind MO_faultPlace MO_at MO_end MO_token MO_number MO_name MO_bank MO_rb MO_codes MO_within MO_piled MO_unitsInRule MO_askThing MO_acts MO_undone MO_laid MO_heards MO_time MO_rooms b_MO_taped b_MO_size b_MO_faultKind b_MO_at b_MO_end b_MO_token b_MO_bank b_MO_rb b_MO_codes b_MO_within b_MO_piled b_MO_unitsInRule b_MO_askThing b_MO_acts b_MO_undone b_MO_laid b_MO_heards b_MO_time sMO_rooms_0_k68) (cwV 0 hts gX12_ways_X12_places rfl rfl rfl (by decide +kernel) ⟨Nat.le_of_ble_eq_true rfl, Nat.le_of_ble_eq_true rfl⟩) ⟨xr_blind, va_recv hK hP (ci := 12) (q0 := 0) rfl rfl, fun U hU hW => xr_mk hU hW hPc hK⟩ rfl rfl hl.1 rfl (lv_room (Nat.le_of_ble_eq_true rfl)) dX12_ways_71 ⟨Nat.le_of_ble_eq_true rfl, Nat.le_of_ble_eq_true rfl⟩).run (fun r71 hr71 => ?_)
                      obtain ⟨hr71, p71_v⟩ := hr71
                      clear hPc
                      refine lv_icmp_ge (tgt := 160) hx hb dX12_ways_74 (by decide) (fun c74 => ?_) (fun c74 => ?_)
                      · obtain ⟨y160, by160, ry160, ey160⟩ := zi_inc (x := v55_3) (k := 1) (a := 2) (b := 10001) bx62f_v55_3 (by decide) (by decide) (by decide) (by decide) (by decide)
                        refine lv_iinc (v := y160) (lv' := [(3, .int y160), (4, .int v68_4), (0, .ref MO), (1, .int x0), (2, .int x1)]) hx hb dX12_ways_160 hl (k := 1) rfl ey160 (by decide) rfl (fun ls hl => ?_)
                        refine lv_goto (tgt := 55) hx hb dX12_ways_163 (by decide) ?_
                        exact ih55 H locs ls y160 g68_aMO52 (zB_w by160 (by decide) (by decide)) sMO_rooms_0_k68 sMO_table_0_k68 sMO_doors_0_k68 sMO_one_0_k68 sMO_other_0_k68 (zM_us (k := 1) hm55 ry160 (by decide)) hP hD hS (lv_sub hl [0, 2, 3, 4] rfl)
                      · have bx74f_v68_4 : zB v68_4 0 7 := zB_ltu (zf c74) bv68_4_k68 hr71 (by decide)
                        have by74f_r71 : zB r71 1 8 := zB_ltv (zf c74) bx74f_v68_4 hr71 (by decide)
                        refine lv_aload_n hx hb dX12_ways_77 rfl (lv_at hl 2 rfl) ?_
                        refine lv_iload_n hx hb dX12_ways_78 rfl (lv_at hl 3 rfl) ?_
                        refine lv_iload hx hb dX12_ways_79 (lv_at hl 0 rfl) ?_
                        have hPc := hP.sub (ws' := [(MO, .inr (12, oX12 aMO MO_taped MO_size MO_faultKind MO_faultPlace MO_at MO_end MO_token MO_number MO_name MO_bank MO_rb MO_codes MO_within MO_piled MO_unitsInRule MO_askThing MO_acts MO_undone MO_laid MO_heards MO_time)), ((aMO 43), .inl (cI, 64, .inl MO_table))]) [0, 2] rfl
                        refine vp_callSi (va_runV (As := [.int x0, .int v68_4]) (rest := []) ⟨hx, hb, hml, hown, hts⟩ (c_X12_farOf l D cI cB cL cZ cG MO x0 v68_4 aMO MO_taped MO_size MO_faultKind MO_faultPlace MO_at MO_end MO_token MO_number MO_name MO_bank MO_rb MO_codes MO_within MO_piled MO_unitsInRule MO_askThing MO_acts MO_undone MO_laid MO_heards MO_time MO_table hr3_1_0 bx74f_v68_4 b_MO_taped b_MO_size b_MO_faultKind b_MO_at b_MO_end b_MO_token b_MO_bank b_MO_rb b_MO_codes b_MO_within b_MO_piled b_MO_unitsInRule b_MO_askThing b_MO_acts b_MO_undone b_MO_laid b_MO_heards b_MO_time sMO_table_0_k68) (cwV 2 hts gX12_ways_X12_farOf rfl rfl rfl (by decide +kernel) ⟨Nat.le_of_ble_eq_true rfl, Nat.le_of_ble_eq_true rfl⟩) ⟨xr_blind, va_recv hK hP (ci := 12) (q0 := 0) rfl rfl, fun U hU hW => xr_mk hU hW hPc hK⟩ rfl rfl hl.1 rfl (lv_room (Nat.le_of_ble_eq_true rfl)) dX12_ways_81 ⟨Nat.le_of_ble_eq_true rfl, Nat.le_of_ble_eq_true rfl⟩).run (fun r81 hr81 => ?_)
                        clear hPc
                        refine lv_iload_n hx hb dX12_ways_84 rfl (lv_at hl 1 rfl) ?_
                        have j154 : ∀ (H : Heap) (locs : List Loc) (ls : Array Slot) (g154_aMO52 : Nat → Int32), zA MO_rooms 0 2 0 8 → zA MO_table 0 64 0 10000 → zA MO_doors 0 2 0 12 → zA MO_one 0 24 0 7 → zA MO_other 0 24 0 7 → va_P D classes [(MO, .inr (12, oX12 aMO MO_taped MO_size MO_faultKind MO_faultPlace MO_at MO_end MO_token MO_number MO_name MO_bank MO_rb MO_codes MO_within MO_piled MO_unitsInRule MO_askThing MO_acts MO_undone MO_laid MO_heards MO_time)), ((aMO 11), .inl (cI, 2, .inl MO_rooms)), ((aMO 43), .inl (cI, 64, .inl MO_table)), ((aMO 52), .inl (cI, 8, .inl g154_aMO52)), ((aMO 12), .inl (cI, 2, .inl MO_doors)), ((aMO 17), .inl (cI, 24, .inl MO_one)), ((aMO 18), .inl (cI, 24, .inl MO_other))] H → va_D A [(MO, .inr (12, oX12 aMO MO_taped MO_size MO_faultKind MO_faultPlace MO_at MO_end MO_token MO_number MO_name MO_bank MO_rb MO_codes MO_within MO_piled MO_unitsInRule MO_askThing MO_acts MO_undone MO_laid MO_heards MO_time)), ((aMO 11), .inl (cI, 2, .inl MO_rooms)), ((aMO 43), .inl (cI, 64, .inl MO_table)), ((aMO 52), .inl (cI, 8, .inl g154_aMO52)), ((aMO 12), .inl (cI, 2, .inl MO_doors)), ((aMO 17), .inl (cI, 24, .inl MO_one)), ((aMO 18), .inl (cI, 24, .inl MO_other))] → va_S A s.heap H locs → lv_has ls 6 [(4, .int v68_4), (3, .int v55_3), (0, .ref MO), (1, .int x0), (2, .int x1)] → W p l e ({ frames := 3, cells := 0, slots := 0, locals := 65 } : Room) s m ([.ref MO, .int x0, .int x1] : List Value).toArray below meth c H locs 0 0 Q (F0 m 154 ls []) := by
                          intro H locs ls g154_aMO52 sMO_rooms_0_k154 sMO_table_0_k154 sMO_doors_0_k154 sMO_one_0_k154 sMO_other_0_k154 hP hD hS hl
                          obtain ⟨y154, by154, ry154, ey154⟩ := zi_inc (x := v68_4) (k := 1) (a := 1) (b := 8) bx74f_v68_4 (by decide) (by decide) (by decide) (by decide) (by decide)
                          refine lv_iinc (v := y154) (lv' := [(4, .int y154), (3, .int v55_3), (0, .ref MO), (1, .int x0), (2, .int x1)]) hx hb dX12_ways_154 hl (k := 0) rfl ey154 (by decide) rfl (fun ls hl => ?_)
                          refine lv_goto (tgt := 68) hx hb dX12_ways_157 (by decide) ?_
                          exact ih68 H locs ls y154 g154_aMO52 (zB_w by154 (by decide) (by decide)) sMO_rooms_0_k154 sMO_table_0_k154 sMO_doors_0_k154 sMO_one_0_k154 sMO_other_0_k154 (zM_us (k := 1) hm68 ry154 (by decide)) hP hD hS (lv_sub hl [0, 1, 2, 3, 4] rfl)
                        refine lv_icmp_eq (tgt := 91) hx hb dX12_ways_85 (by decide) (fun c85 => ?_) (fun c85 => ?_)
                        · have be85t_r81 : zB r81 1 10000 := zB_eq c85 hr81 bx62f_v55_3 (by decide) (by decide)
                          refine lv_iconst (v := 0) hx hb dX12_ways_91 (by decide) ?_
                          have j94 : ∀ (n94 : Nat) (H : Heap) (locs : List Loc) (ls : Array Slot) (v94_5 : Int32) (g94_aMO52 : Nat → Int32), zB v94_5 0 8 → zA MO_rooms 0 2 0 8 → zA MO_table 0 64 0 10000 → zA MO_doors 0 2 0 12 → zA MO_one 0 24 0 7 → zA MO_other 0 24 0 7 → (8 + 1 - v94_5.toInt) ≤ (n94 : Int) → va_P D classes [(MO, .inr (12, oX12 aMO MO_taped MO_size MO_faultKind MO_faultPlace MO_at MO_end MO_token MO_number MO_name MO_bank MO_rb MO_codes MO_within MO_piled MO_unitsInRule MO_askThing MO_acts MO_undone MO_laid MO_heards MO_time)), ((aMO 11), .inl (cI, 2, .inl MO_rooms)), ((aMO 43), .inl (cI, 64, .inl MO_table)), ((aMO 52), .inl (cI, 8, .inl g94_aMO52)), ((aMO 12), .inl (cI, 2, .inl MO_doors)), ((aMO 17), .inl (cI, 24, .inl MO_one)), ((aMO 18), .inl (cI, 24, .inl MO_other))] H → va_D A [(MO, .inr (12, oX12 aMO MO_taped MO_size MO_faultKind MO_faultPlace MO_at MO_end MO_token MO_number MO_name MO_bank MO_rb MO_codes MO_within MO_piled MO_unitsInRule MO_askThing MO_acts MO_undone MO_laid MO_heards MO_time)), ((aMO 11), .inl (cI, 2, .inl MO_rooms)), ((aMO 43), .inl (cI, 64, .inl MO_table)), ((aMO 52), .inl (cI, 8, .inl g94_aMO52)), ((aMO 12), .inl (cI, 2, .inl MO_doors)), ((aMO 17), .inl (cI, 24, .inl MO_one)), ((aMO 18), .inl (cI, 24, .inl MO_other))] → va_S A s.heap H locs → lv_has ls 6 [(5, .int v94_5), (4, .int v68_4), (3, .int v55_3), (0, .ref MO), (1, .int x0), (2, .int x1)] → W p l e ({ frames := 3, cells := 0, slots := 0, locals := 65 } : Room) s m ([.ref MO, .int x0, .int x1] : List Value).toArray below meth c H locs 0 0 Q (F0 m 94 ls []) := by
                            intro n94
                            induction n94 with
                            | zero => intro H locs ls v94_5 g94_aMO52 bv94_5_k94 sMO_rooms_0_k94 sMO_table_0_k94 sMO_doors_0_k94 sMO_one_0_k94 sMO_other_0_k94 hm94 hP hD hS hl; exact zM_u0 bv94_5_k94 hm94
                            | succ n94 ih94 =>
                              intro H locs ls v94_5 g94_aMO52 bv94_5_k94 sMO_rooms_0_k94 sMO_table_0_k94 sMO_doors_0_k94 sMO_one_0_k94 sMO_other_0_k94 hm94 hP hD hS hl
                              refine lv_iload hx hb dX12_ways_94 (lv_at hl 0 rfl) ?_
                              refine lv_aload_n hx hb dX12_ways_96 rfl (lv_at hl 3 rfl) ?_
                              have hPc := hP.sub (ws' := [(MO, .inr (12, oX12 aMO MO_taped MO_size MO_faultKind MO_faultPlace MO_at MO_end MO_token MO_number MO_name MO_bank MO_rb MO_codes MO_within MO_piled MO_unitsInRule MO_askThing MO_acts MO_undone MO_laid MO_heards MO_time)), ((aMO 11), .inl (cI, 2, .inl MO_rooms))]) [0, 1] rfl
                              refine vp_callSi (va_runV (As := []) (rest := [.int v94_5]) ⟨hx, hb, hml, hown, hts⟩ (c_X12_places l D cI cB cL cZ cG MO aMO MO_taped MO_size MO_faultKind MO_faultPlace MO_at MO_end MO_token MO_number MO_name MO_bank MO_rb MO_codes MO_within MO_piled MO_unitsInRule MO_askThing MO_acts MO_undone MO_laid MO_heards MO_time MO_rooms b_MO_taped b_MO_size b_MO_faultKind b_MO_at b_MO_end b_MO_token b_MO_bank b_MO_rb b_MO_codes b_MO_within b_MO_piled b_MO_unitsInRule b_MO_askThing b_MO_acts b_MO_undone b_MO_laid b_MO_heards b_MO_time sMO_rooms_0_k94) (cwV 0 hts gX12_ways_X12_places rfl rfl rfl (by decide +kernel) ⟨Nat.le_of_ble_eq_true rfl, Nat.le_of_ble_eq_true rfl⟩) ⟨xr_blind, va_recv hK hP (ci := 12) (q0 := 0) rfl rfl, fun U hU hW => xr_mk hU hW hPc hK⟩ rfl rfl hl.1 rfl (lv_room (Nat.le_of_ble_eq_true rfl)) dX12_ways_97 ⟨Nat.le_of_ble_eq_true rfl, Nat.le_of_ble_eq_true rfl⟩).run (fun r97 hr97 => ?_)
                              obtain ⟨hr97, p97_v⟩ := hr97
                              clear hPc
                              refine lv_icmp_ge (tgt := 154) hx hb dX12_ways_100 (by decide) (fun c100 => ?_) (fun c100 => ?_)
                              · exact j154 H locs ls g94_aMO52 sMO_rooms_0_k94 sMO_table_0_k94 sMO_doors_0_k94 sMO_one_0_k94 sMO_other_0_k94 hP hD hS (lv_sub hl [1, 2, 3, 4, 5] rfl)
                              · have bx100f_v94_5 : zB v94_5 0 7 := zB_ltu (zf c100) bv94_5_k94 hr97 (by decide)
                                have by100f_r97 : zB r97 1 8 := zB_ltv (zf c100) bx100f_v94_5 hr97 (by decide)
                                refine lv_aload_n hx hb dX12_ways_103 rfl (lv_at hl 3 rfl) ?_
                                refine lv_iload hx hb dX12_ways_104 (lv_at hl 1 rfl) ?_
                                refine lv_iconst (v := (-1)) hx hb dX12_ways_106 (by decide) ?_
                                have hPc := hP.sub (ws' := [(MO, .inr (12, oX12 aMO MO_taped MO_size MO_faultKind MO_faultPlace MO_at MO_end MO_token MO_number MO_name MO_bank MO_rb MO_codes MO_within MO_piled MO_unitsInRule MO_askThing MO_acts MO_undone MO_laid MO_heards MO_time)), ((aMO 12), .inl (cI, 2, .inl MO_doors)), ((aMO 17), .inl (cI, 24, .inl MO_one)), ((aMO 18), .inl (cI, 24, .inl MO_other))]) [0, 4, 5, 6] rfl
                                refine vp_callSi (va_runV (As := [.int v68_4, .int (-1)]) (rest := []) ⟨hx, hb, hml, hown, hts⟩ (c_X12_behind l D cI cB cL cZ cG MO v68_4 (-1) aMO MO_taped MO_size MO_faultKind MO_faultPlace MO_at MO_end MO_token MO_number MO_name MO_bank MO_rb MO_codes MO_within MO_piled MO_unitsInRule MO_askThing MO_acts MO_undone MO_laid MO_heards MO_time MO_doors MO_one MO_other b_MO_taped b_MO_size b_MO_faultKind b_MO_at b_MO_end b_MO_token b_MO_bank b_MO_rb b_MO_codes b_MO_within b_MO_piled b_MO_unitsInRule b_MO_askThing b_MO_acts b_MO_undone b_MO_laid b_MO_heards b_MO_time sMO_doors_0_k94 sMO_one_0_k94 sMO_other_0_k94) (cwV 2 hts gX12_ways_X12_behind rfl rfl rfl (by decide +kernel) ⟨Nat.le_of_ble_eq_true rfl, Nat.le_of_ble_eq_true rfl⟩) ⟨xr_blind, va_recv hK hP (ci := 12) (q0 := 0) rfl rfl, fun U hU hW => xr_mk hU hW hPc hK⟩ rfl rfl hl.1 rfl (lv_room (Nat.le_of_ble_eq_true rfl)) dX12_ways_107 ⟨Nat.le_of_ble_eq_true rfl, Nat.le_of_ble_eq_true rfl⟩).run (fun r107 hr107 => ?_)
                                obtain ⟨hr107, p107_b, p107_u⟩ := hr107
                                clear hPc
                                refine lv_iload hx hb dX12_ways_110 (lv_at hl 0 rfl) ?_
                                have hPc := hP.sub (ws' := []) [] rfl
                                refine vp_callSi (va_runS (As := [.int r107, .int v94_5]) (rest := []) ⟨hx, hb, hml, hown, hts⟩ (c_X12_has l D cI cB cL cZ cG r107 v94_5) (va_cwS 2 hts gX12_ways_X12_has rfl rfl rfl (by decide +kernel) ⟨Nat.le_of_ble_eq_true rfl, Nat.le_of_ble_eq_true rfl⟩) ⟨xr_blind, fun U hU hW => xr_mk hU hW hPc hK⟩ rfl rfl hl.1 rfl (lv_room (Nat.le_of_ble_eq_true rfl)) dX12_ways_112 ⟨Nat.le_of_ble_eq_true rfl, Nat.le_of_ble_eq_true rfl⟩).run (fun r112 hr112 => ?_)
                                obtain ⟨hr112, p112_t, p112_f⟩ := hr112
                                clear hPc
                                rcases hr112 with rfl | rfl
                                · have j148 : ∀ (H : Heap) (locs : List Loc) (ls : Array Slot) (g148_aMO52 : Nat → Int32), zA MO_rooms 0 2 0 8 → zA MO_table 0 64 0 10000 → zA MO_doors 0 2 0 12 → zA MO_one 0 24 0 7 → zA MO_other 0 24 0 7 → va_P D classes [(MO, .inr (12, oX12 aMO MO_taped MO_size MO_faultKind MO_faultPlace MO_at MO_end MO_token MO_number MO_name MO_bank MO_rb MO_codes MO_within MO_piled MO_unitsInRule MO_askThing MO_acts MO_undone MO_laid MO_heards MO_time)), ((aMO 11), .inl (cI, 2, .inl MO_rooms)), ((aMO 43), .inl (cI, 64, .inl MO_table)), ((aMO 52), .inl (cI, 8, .inl g148_aMO52)), ((aMO 12), .inl (cI, 2, .inl MO_doors)), ((aMO 17), .inl (cI, 24, .inl MO_one)), ((aMO 18), .inl (cI, 24, .inl MO_other))] H → va_D A [(MO, .inr (12, oX12 aMO MO_taped MO_size MO_faultKind MO_faultPlace MO_at MO_end MO_token MO_number MO_name MO_bank MO_rb MO_codes MO_within MO_piled MO_unitsInRule MO_askThing MO_acts MO_undone MO_laid MO_heards MO_time)), ((aMO 11), .inl (cI, 2, .inl MO_rooms)), ((aMO 43), .inl (cI, 64, .inl MO_table)), ((aMO 52), .inl (cI, 8, .inl g148_aMO52)), ((aMO 12), .inl (cI, 2, .inl MO_doors)), ((aMO 17), .inl (cI, 24, .inl MO_one)), ((aMO 18), .inl (cI, 24, .inl MO_other))] → va_S A s.heap H locs → lv_has ls 6 [(5, .int v94_5), (4, .int v68_4), (3, .int v55_3), (0, .ref MO), (1, .int x0), (2, .int x1)] → W p l e ({ frames := 3, cells := 0, slots := 0, locals := 65 } : Room) s m ([.ref MO, .int x0, .int x1] : List Value).toArray below meth c H locs 0 0 Q (F0 m 148 ls []) := by
                                    intro H locs ls g148_aMO52 sMO_rooms_0_k148 sMO_table_0_k148 sMO_doors_0_k148 sMO_one_0_k148 sMO_other_0_k148 hP hD hS hl
                                    obtain ⟨y148, by148, ry148, ey148⟩ := zi_inc (x := v94_5) (k := 1) (a := 1) (b := 8) bx100f_v94_5 (by decide) (by decide) (by decide) (by decide) (by decide)
                                    refine lv_iinc (v := y148) (lv' := [(5, .int y148), (4, .int v68_4), (3, .int v55_3), (0, .ref MO), (1, .int x0), (2, .int x1)]) hx hb dX12_ways_148 hl (k := 0) rfl ey148 (by decide) rfl (fun ls hl => ?_)
                                    refine lv_goto (tgt := 94) hx hb dX12_ways_151 (by decide) ?_
                                    exact ih94 H locs ls y148 g148_aMO52 (zB_w by148 (by decide) (by decide)) sMO_rooms_0_k148 sMO_table_0_k148 sMO_doors_0_k148 sMO_one_0_k148 sMO_other_0_k148 (zM_us (k := 1) hm94 ry148 (by decide)) hP hD hS (lv_sub hl [0, 1, 2, 3, 4, 5] rfl)
                                  refine lv_if_eq (tgt := 148) hx hb dX12_ways_115 (by decide) (fun _ => ?_) (fun c115 => absurd (by decide) c115)
                                  exact j148 H locs ls g94_aMO52 sMO_rooms_0_k94 sMO_table_0_k94 sMO_doors_0_k94 sMO_one_0_k94 sMO_other_0_k94 hP hD hS (lv_sub hl [0, 1, 2, 3, 4, 5] rfl)
                                · have j148 : ∀ (H : Heap) (locs : List Loc) (ls : Array Slot) (g148_aMO52 : Nat → Int32), zA MO_rooms 0 2 0 8 → zA MO_table 0 64 0 10000 → zA MO_doors 0 2 0 12 → zA MO_one 0 24 0 7 → zA MO_other 0 24 0 7 → va_P D classes [(MO, .inr (12, oX12 aMO MO_taped MO_size MO_faultKind MO_faultPlace MO_at MO_end MO_token MO_number MO_name MO_bank MO_rb MO_codes MO_within MO_piled MO_unitsInRule MO_askThing MO_acts MO_undone MO_laid MO_heards MO_time)), ((aMO 11), .inl (cI, 2, .inl MO_rooms)), ((aMO 43), .inl (cI, 64, .inl MO_table)), ((aMO 52), .inl (cI, 8, .inl g148_aMO52)), ((aMO 12), .inl (cI, 2, .inl MO_doors)), ((aMO 17), .inl (cI, 24, .inl MO_one)), ((aMO 18), .inl (cI, 24, .inl MO_other))] H → va_D A [(MO, .inr (12, oX12 aMO MO_taped MO_size MO_faultKind MO_faultPlace MO_at MO_end MO_token MO_number MO_name MO_bank MO_rb MO_codes MO_within MO_piled MO_unitsInRule MO_askThing MO_acts MO_undone MO_laid MO_heards MO_time)), ((aMO 11), .inl (cI, 2, .inl MO_rooms)), ((aMO 43), .inl (cI, 64, .inl MO_table)), ((aMO 52), .inl (cI, 8, .inl g148_aMO52)), ((aMO 12), .inl (cI, 2, .inl MO_doors)), ((aMO 17), .inl (cI, 24, .inl MO_one)), ((aMO 18), .inl (cI, 24, .inl MO_other))] → va_S A s.heap H locs → lv_has ls 6 [(5, .int v94_5), (4, .int v68_4), (3, .int v55_3), (0, .ref MO), (1, .int x0), (2, .int x1)] → W p l e ({ frames := 3, cells := 0, slots := 0, locals := 65 } : Room) s m ([.ref MO, .int x0, .int x1] : List Value).toArray below meth c H locs 0 0 Q (F0 m 148 ls []) := by
                                    intro H locs ls g148_aMO52 sMO_rooms_0_k148 sMO_table_0_k148 sMO_doors_0_k148 sMO_one_0_k148 sMO_other_0_k148 hP hD hS hl
                                    obtain ⟨y148, by148, ry148, ey148⟩ := zi_inc (x := v94_5) (k := 1) (a := 1) (b := 8) bx100f_v94_5 (by decide) (by decide) (by decide) (by decide) (by decide)
                                    refine lv_iinc (v := y148) (lv' := [(5, .int y148), (4, .int v68_4), (3, .int v55_3), (0, .ref MO), (1, .int x0), (2, .int x1)]) hx hb dX12_ways_148 hl (k := 0) rfl ey148 (by decide) rfl (fun ls hl => ?_)
                                    refine lv_goto (tgt := 94) hx hb dX12_ways_151 (by decide) ?_
                                    exact ih94 H locs ls y148 g148_aMO52 (zB_w by148 (by decide) (by decide)) sMO_rooms_0_k148 sMO_table_0_k148 sMO_doors_0_k148 sMO_one_0_k148 sMO_other_0_k148 (zM_us (k := 1) hm94 ry148 (by decide)) hP hD hS (lv_sub hl [0, 1, 2, 3, 4, 5] rfl)
                                  refine lv_if_eq (tgt := 148) hx hb dX12_ways_115 (by decide) (fun c115 => absurd c115 (by decide)) (fun _ => ?_)
                                  refine lv_aload_n hx hb dX12_ways_118 rfl (lv_at hl 3 rfl) ?_
                                  refine lv_iload_n hx hb dX12_ways_119 rfl (lv_at hl 4 rfl) ?_
                                  refine lv_iload hx hb dX12_ways_120 (lv_at hl 0 rfl) ?_
                                  have hPc := hP.sub (ws' := [(MO, .inr (12, oX12 aMO MO_taped MO_size MO_faultKind MO_faultPlace MO_at MO_end MO_token MO_number MO_name MO_bank MO_rb MO_codes MO_within MO_piled MO_unitsInRule MO_askThing MO_acts MO_undone MO_laid MO_heards MO_time)), ((aMO 43), .inl (cI, 64, .inl MO_table))]) [0, 2] rfl
                                  refine vp_callSi (va_runV (As := [.int x0, .int v94_5]) (rest := []) ⟨hx, hb, hml, hown, hts⟩ (c_X12_farOf l D cI cB cL cZ cG MO x0 v94_5 aMO MO_taped MO_size MO_faultKind MO_faultPlace MO_at MO_end MO_token MO_number MO_name MO_bank MO_rb MO_codes MO_within MO_piled MO_unitsInRule MO_askThing MO_acts MO_undone MO_laid MO_heards MO_time MO_table hr3_1_0 bx100f_v94_5 b_MO_taped b_MO_size b_MO_faultKind b_MO_at b_MO_end b_MO_token b_MO_bank b_MO_rb b_MO_codes b_MO_within b_MO_piled b_MO_unitsInRule b_MO_askThing b_MO_acts b_MO_undone b_MO_laid b_MO_heards b_MO_time sMO_table_0_k94) (cwV 2 hts gX12_ways_X12_farOf rfl rfl rfl (by decide +kernel) ⟨Nat.le_of_ble_eq_true rfl, Nat.le_of_ble_eq_true rfl⟩) ⟨xr_blind, va_recv hK hP (ci := 12) (q0 := 0) rfl rfl, fun U hU hW => xr_mk hU hW hPc hK⟩ rfl rfl hl.1 rfl (lv_room (Nat.le_of_ble_eq_true rfl)) dX12_ways_122 ⟨Nat.le_of_ble_eq_true rfl, Nat.le_of_ble_eq_true rfl⟩).run (fun r122 hr122 => ?_)
                                  clear hPc
                                  refine lv_iload_n hx hb dX12_ways_125 rfl (lv_at hl 2 rfl) ?_
                                  refine lv_iconst (v := 1) hx hb dX12_ways_126 (by decide) ?_
                                  refine lv_isub hx hb dX12_ways_127 ?_
                                  refine zi_top2 (P := fun y => y.toInt = v55_3.toInt + (-1)) (a := 0) (b := 9999) (zB_sub bx62f_v55_3 (show zB 1 1 1 from ⟨by decide, by decide⟩) (by decide) (by decide) (by decide) (by decide)) (zR_subc bx62f_v55_3 (by decide) (by decide) (by decide)) (fun y127 by127 ry127 => ?_)
                                  refine lv_icmp_ne (tgt := 148) hx hb dX12_ways_128 (by decide) (fun c128 => ?_) (fun c128 => ?_)
                                  · exact j148 H locs ls g94_aMO52 sMO_rooms_0_k94 sMO_table_0_k94 sMO_doors_0_k94 sMO_one_0_k94 sMO_other_0_k94 hP hD hS (lv_sub hl [0, 1, 2, 3, 4, 5] rfl)
                                  · have be128f_r122 : zB r122 0 9999 := zB_eq c128 hr122 by127 (by decide) (by decide)
                                    refine lv_aload_n hx hb dX12_ways_131 rfl (lv_at hl 3 rfl) ?_
                                    refine va_get (D := D) (ci := 12) (v := .ref (aMO 52)) (C := RX12) (T := TX12) (N := 71) hx hb hts iw_X12_ways_X12 hown hK hP 0 rfl rfl 52 (by decide) (hts (.fieldLink RX12 116 "SoldHouseModel" "waysTo" "[I") (List.mem_of_getElem? (i := 1) rfl)) (fun _ h9 => h9) rfl dX12_ways_132 ?_
                                    refine lv_iload hx hb dX12_ways_135 (lv_at hl 1 rfl) ?_
                                    refine lv_dup2_11 hx hb dX12_ways_137 rfl rfl ?_
                                    refine va_iald hx hb hK hP 3 0 rfl rfl (zB_in bx74f_v68_4 (by decide) (by decide)) dX12_ways_138 ?_
                                    refine lv_topi (fun y138 _ => ?_)
                                    refine lv_aload_n hx hb dX12_ways_139 rfl (lv_at hl 3 rfl) ?_
                                    refine va_get (D := D) (ci := 12) (v := .ref (aMO 52)) (C := RX12) (T := TX12) (N := 71) hx hb hts iw_X12_ways_X12 hown hK hP 0 rfl rfl 52 (by decide) (hts (.fieldLink RX12 116 "SoldHouseModel" "waysTo" "[I") (List.mem_of_getElem? (i := 1) rfl)) (fun _ h9 => h9) rfl dX12_ways_140 ?_
                                    refine lv_iload hx hb dX12_ways_143 (lv_at hl 0 rfl) ?_
                                    refine va_iald hx hb hK hP 3 0 rfl rfl (zB_in bx100f_v94_5 (by decide) (by decide)) dX12_ways_145 ?_
                                    refine lv_topi (fun y145 _ => ?_)
                                    refine lv_iadd hx hb dX12_ways_146 ?_
                                    refine lv_topi (fun y146 _ => ?_)
                                    refine zi_iast hx hb hK hP hD hS 3 0 rfl rfl (zB_in bx74f_v68_4 (by decide) (by decide)) dX12_ways_147 (fun H locs g147 eg147 hP hD hS => ?_)
                                    replace hP : va_P D classes [(MO, .inr (12, oX12 aMO MO_taped MO_size MO_faultKind MO_faultPlace MO_at MO_end MO_token MO_number MO_name MO_bank MO_rb MO_codes MO_within MO_piled MO_unitsInRule MO_askThing MO_acts MO_undone MO_laid MO_heards MO_time)), ((aMO 11), .inl (cI, 2, .inl MO_rooms)), ((aMO 43), .inl (cI, 64, .inl MO_table)), ((aMO 52), .inl (cI, 8, .inl g147)), ((aMO 12), .inl (cI, 2, .inl MO_doors)), ((aMO 17), .inl (cI, 24, .inl MO_one)), ((aMO 18), .inl (cI, 24, .inl MO_other))] H := hP
                                    replace hD : va_D A [(MO, .inr (12, oX12 aMO MO_taped MO_size MO_faultKind MO_faultPlace MO_at MO_end MO_token MO_number MO_name MO_bank MO_rb MO_codes MO_within MO_piled MO_unitsInRule MO_askThing MO_acts MO_undone MO_laid MO_heards MO_time)), ((aMO 11), .inl (cI, 2, .inl MO_rooms)), ((aMO 43), .inl (cI, 64, .inl MO_table)), ((aMO 52), .inl (cI, 8, .inl g147)), ((aMO 12), .inl (cI, 2, .inl MO_doors)), ((aMO 17), .inl (cI, 24, .inl MO_one)), ((aMO 18), .inl (cI, 24, .inl MO_other))] := hD
                                    clear eg147
                                    exact j148 H locs ls g147 sMO_rooms_0_k94 sMO_table_0_k94 sMO_doors_0_k94 sMO_one_0_k94 sMO_other_0_k94 hP hD hS (lv_sub hl [0, 1, 2, 3, 4, 5] rfl)
                          refine lv_istore (lv' := [(5, .int 0), (4, .int v68_4), (3, .int v55_3), (0, .ref MO), (1, .int x0), (2, .int x1)]) hx hb dX12_ways_92 hl (by decide) rfl (fun ls hl => ?_)
                          exact j94 9 H locs ls 0 g68_aMO52 (zB_w (show zB 0 0 0 from ⟨by decide, by decide⟩) (by decide) (by decide)) sMO_rooms_0_k68 sMO_table_0_k68 sMO_doors_0_k68 sMO_one_0_k68 sMO_other_0_k68 (zM_ui (show zB 0 0 0 from ⟨by decide, by decide⟩) (by decide)) hP hD hS (lv_sub hl [0, 1, 2, 3, 4, 5] rfl)
                        · refine lv_goto (tgt := 154) hx hb dX12_ways_88 (by decide) ?_
                          exact j154 H locs ls g68_aMO52 sMO_rooms_0_k68 sMO_table_0_k68 sMO_doors_0_k68 sMO_one_0_k68 sMO_other_0_k68 hP hD hS (lv_sub hl [0, 1, 2, 3, 4] rfl)
                  refine lv_istore (lv' := [(4, .int 0), (3, .int v55_3), (0, .ref MO), (1, .int x0), (2, .int x1)]) hx hb dX12_ways_66 hl (by decide) rfl (fun ls hl => ?_)
                  exact j68 9 H locs ls 0 g55_aMO52 (zB_w (show zB 0 0 0 from ⟨by decide, by decide⟩) (by decide) (by decide)) sMO_rooms_0_k55 sMO_table_0_k55 sMO_doors_0_k55 sMO_one_0_k55 sMO_other_0_k55 (zM_ui (show zB 0 0 0 from ⟨by decide, by decide⟩) (by decide)) hP hD hS (lv_sub hl [0, 1, 2, 3, 4] rfl)
            refine lv_istore_n (lv' := [(3, .int 1), (0, .ref MO), (1, .int x0), (2, .int x1)]) hx hb dX12_ways_54 rfl hl (by decide) rfl (fun ls hl => ?_)
            exact j55 10001 H locs ls 1 g25_aMO52 (zB_w (show zB 1 1 1 from ⟨by decide, by decide⟩) (by decide) (by decide)) sMO_rooms_0_k25 sMO_table_0_k25 sMO_doors_0_k25 sMO_one_0_k25 sMO_other_0_k25 (zM_ui (show zB 1 1 1 from ⟨by decide, by decide⟩) (by decide)) hP hD hS (lv_sub hl [0, 1, 2, 3] rfl)
          · have bx28f_v25_3 : zB v25_3 0 7 := zB_ltu (zf c28) bv25_3_k25 (show zB 8 8 8 from ⟨by decide, by decide⟩) (by decide)
            refine lv_aload_n hx hb dX12_ways_31 rfl (lv_at hl 1 rfl) ?_
            refine va_get (D := D) (ci := 12) (v := .ref (aMO 52)) (C := RX12) (T := TX12) (N := 71) hx hb hts iw_X12_ways_X12 hown hK hP 0 rfl rfl 52 (by decide) (hts (.fieldLink RX12 116 "SoldHouseModel" "waysTo" "[I") (List.mem_of_getElem? (i := 1) rfl)) (fun _ h9 => h9) rfl dX12_ways_32 ?_
            refine lv_iload_n hx hb dX12_ways_35 rfl (lv_at hl 0 rfl) ?_
            refine lv_iload_n hx hb dX12_ways_36 rfl (lv_at hl 0 rfl) ?_
            refine lv_iload_n hx hb dX12_ways_37 rfl (lv_at hl 2 rfl) ?_
            have j46 : ∀ (H : Heap) (locs : List Loc) (ls : Array Slot) (u46_0 : Int32), zB u46_0 0 1 → zA MO_rooms 0 2 0 8 → zA MO_table 0 64 0 10000 → zA MO_doors 0 2 0 12 → zA MO_one 0 24 0 7 → zA MO_other 0 24 0 7 → va_P D classes [(MO, .inr (12, oX12 aMO MO_taped MO_size MO_faultKind MO_faultPlace MO_at MO_end MO_token MO_number MO_name MO_bank MO_rb MO_codes MO_within MO_piled MO_unitsInRule MO_askThing MO_acts MO_undone MO_laid MO_heards MO_time)), ((aMO 11), .inl (cI, 2, .inl MO_rooms)), ((aMO 43), .inl (cI, 64, .inl MO_table)), ((aMO 52), .inl (cI, 8, .inl g25_aMO52)), ((aMO 12), .inl (cI, 2, .inl MO_doors)), ((aMO 17), .inl (cI, 24, .inl MO_one)), ((aMO 18), .inl (cI, 24, .inl MO_other))] H → va_D A [(MO, .inr (12, oX12 aMO MO_taped MO_size MO_faultKind MO_faultPlace MO_at MO_end MO_token MO_number MO_name MO_bank MO_rb MO_codes MO_within MO_piled MO_unitsInRule MO_askThing MO_acts MO_undone MO_laid MO_heards MO_time)), ((aMO 11), .inl (cI, 2, .inl MO_rooms)), ((aMO 43), .inl (cI, 64, .inl MO_table)), ((aMO 52), .inl (cI, 8, .inl g25_aMO52)), ((aMO 12), .inl (cI, 2, .inl MO_doors)), ((aMO 17), .inl (cI, 24, .inl MO_one)), ((aMO 18), .inl (cI, 24, .inl MO_other))] → va_S A s.heap H locs → lv_has ls 6 [(3, .int v25_3), (0, .ref MO), (1, .int x0), (2, .int x1)] → W p l e ({ frames := 3, cells := 0, slots := 0, locals := 65 } : Room) s m ([.ref MO, .int x0, .int x1] : List Value).toArray below meth c H locs 0 0 Q (F0 m 46 ls [.int u46_0, .int v25_3, .ref (aMO 52)]) := by
              intro H locs ls u46_0 bu46_0_k46 sMO_rooms_0_k46 sMO_table_0_k46 sMO_doors_0_k46 sMO_one_0_k46 sMO_other_0_k46 hP hD hS hl
              refine zi_iast hx hb hK hP hD hS 3 0 rfl rfl (zB_in bx28f_v25_3 (by decide) (by decide)) dX12_ways_46 (fun H locs g46 eg46 hP hD hS => ?_)
              replace hP : va_P D classes [(MO, .inr (12, oX12 aMO MO_taped MO_size MO_faultKind MO_faultPlace MO_at MO_end MO_token MO_number MO_name MO_bank MO_rb MO_codes MO_within MO_piled MO_unitsInRule MO_askThing MO_acts MO_undone MO_laid MO_heards MO_time)), ((aMO 11), .inl (cI, 2, .inl MO_rooms)), ((aMO 43), .inl (cI, 64, .inl MO_table)), ((aMO 52), .inl (cI, 8, .inl g46)), ((aMO 12), .inl (cI, 2, .inl MO_doors)), ((aMO 17), .inl (cI, 24, .inl MO_one)), ((aMO 18), .inl (cI, 24, .inl MO_other))] H := hP
              replace hD : va_D A [(MO, .inr (12, oX12 aMO MO_taped MO_size MO_faultKind MO_faultPlace MO_at MO_end MO_token MO_number MO_name MO_bank MO_rb MO_codes MO_within MO_piled MO_unitsInRule MO_askThing MO_acts MO_undone MO_laid MO_heards MO_time)), ((aMO 11), .inl (cI, 2, .inl MO_rooms)), ((aMO 43), .inl (cI, 64, .inl MO_table)), ((aMO 52), .inl (cI, 8, .inl g46)), ((aMO 12), .inl (cI, 2, .inl MO_doors)), ((aMO 17), .inl (cI, 24, .inl MO_one)), ((aMO 18), .inl (cI, 24, .inl MO_other))] := hD
              clear eg46
              obtain ⟨y47, by47, ry47, ey47⟩ := zi_inc (x := v25_3) (k := 1) (a := 1) (b := 8) bx28f_v25_3 (by decide) (by decide) (by decide) (by decide) (by decide)
              refine lv_iinc (v := y47) (lv' := [(3, .int y47), (0, .ref MO), (1, .int x0), (2, .int x1)]) hx hb dX12_ways_47 hl (k := 0) rfl ey47 (by decide) rfl (fun ls hl => ?_)
              refine lv_goto (tgt := 25) hx hb dX12_ways_50 (by decide) ?_
              exact ih25 H locs ls y47 g46 (zB_w by47 (by decide) (by decide)) sMO_rooms_0_k46 sMO_table_0_k46 sMO_doors_0_k46 sMO_one_0_k46 sMO_other_0_k46 (zM_us (k := 1) hm25 ry47 (by decide)) hP hD hS (lv_sub hl [0, 1, 2, 3] rfl)
            refine lv_icmp_ne (tgt := 45) hx hb dX12_ways_38 (by decide) (fun c38 => ?_) (fun c38 => ?_)
            · refine lv_iconst (v := 0) hx hb dX12_ways_45 (by decide) ?_
              exact j46 H locs ls 0 (zB_w (show zB 0 0 0 from ⟨by decide, by decide⟩) (by decide) (by decide)) sMO_rooms_0_k25 sMO_table_0_k25 sMO_doors_0_k25 sMO_one_0_k25 sMO_other_0_k25 hP hD hS (lv_sub hl [0, 1, 2, 3] rfl)
            · refine lv_iconst (v := 1) hx hb dX12_ways_41 (by decide) ?_
              refine lv_goto (tgt := 46) hx hb dX12_ways_42 (by decide) ?_
              exact j46 H locs ls 1 (zB_w (show zB 1 1 1 from ⟨by decide, by decide⟩) (by decide) (by decide)) sMO_rooms_0_k25 sMO_table_0_k25 sMO_doors_0_k25 sMO_one_0_k25 sMO_other_0_k25 hP hD hS (lv_sub hl [0, 1, 2, 3] rfl)
      refine lv_istore_n (lv' := [(3, .int 0), (0, .ref MO), (1, .int x0), (2, .int x1)]) hx hb dX12_ways_24 rfl hl (by decide) rfl (fun ls hl => ?_)
      exact j25 9 H locs ls 0 MO_waysTo (zB_w (show zB 0 0 0 from ⟨by decide, by decide⟩) (by decide) (by decide)) s_MO_rooms_0 s_MO_table_0 s_MO_doors_0 s_MO_one_0 s_MO_other_0 (zM_ui (show zB 0 0 0 from ⟨by decide, by decide⟩) (by decide)) hP hD hS (lv_sub hl [0, 1, 2, 3] rfl)
    · have be18f_r12 : zB r12 10000 10000 := zB_eq c18 hr12 (show zB 10000 10000 10000 from ⟨by decide, by decide⟩) (by decide) (by decide)
      refine lv_iconst (v := (-1)) hx hb dX12_ways_21 (by decide) ?_
      exact up _ _ _ (W.iret (v := (-1)) hx hb hr (fun t ht hW => ⟨⟨(-1), (), rfl, trivial, ⟨MO_waysTo, by rw [ht]; exact hP, hD⟩⟩, hS.F ht⟩) hS.2.2 dX12_ways_22)
set_option maxHeartbeats 4000000 in
set_option maxRecDepth 100000 in
theorem c_X12_pieces (l : Launch) (D : va_G) (cI : ClassId) (cB : ClassId) (cL : ClassId) (cZ : ClassId) (cG : ClassId) (MO : Nat) (aMO : Nat → Nat) (MO_taped : Int32) (MO_size : Int32) (MO_faultKind : Int32) (MO_faultPlace : Int32) (MO_at : Int32) (MO_end : Int32) (MO_token : Int32) (MO_number : Int32) (MO_name : Int64) (MO_bank : Int32) (MO_rb : Int32) (MO_codes : Int32) (MO_within : Int32) (MO_piled : Int32) (MO_unitsInRule : Int32) (MO_askThing : Int32) (MO_acts : Int32) (MO_undone : Int32) (MO_laid : Int32) (MO_heards : Int32) (MO_time : Int32) (MO_rooms : Nat → Int32) (MO_doors : Nat → Int32) (MO_one : Nat → Int32) (MO_other : Nat → Int32) (b_MO_taped : zB MO_taped 0 1600) (b_MO_size : zB MO_size 0 1600) (b_MO_faultKind : zB MO_faultKind 0 5) (b_MO_at : zB MO_at 0 1600) (b_MO_end : zB MO_end 0 1600) (b_MO_token : zB MO_token 0 5) (b_MO_bank : zB MO_bank 0 1) (b_MO_rb : zB MO_rb 0 1) (b_MO_codes : zB MO_codes 0 1120) (b_MO_within : zB MO_within 0 7) (b_MO_piled : zB MO_piled 0 89) (b_MO_unitsInRule : zB MO_unitsInRule 0 30) (b_MO_askThing : zB MO_askThing 0 5) (b_MO_acts : zB MO_acts 0 40) (b_MO_undone : zB MO_undone 0 40) (b_MO_laid : zB MO_laid 0 8) (b_MO_heards : zB MO_heards 0 30) (b_MO_time : zB MO_time 0 100000) (s_MO_rooms_0 : zA MO_rooms 0 2 0 8) (s_MO_doors_0 : zA MO_doors 0 2 0 12) (s_MO_one_0 : zA MO_one 0 24 0 7) (s_MO_other_0 : zA MO_other 0 24 0 7) : Met l yX12_pieces wsX12_pieces ({ frames := 3, cells := 0, slots := 0, locals := 71 }) (xr D [(cI, .int), (cB, .byte), (cL, .long), (cZ, .boolean), (cG, .array .int)] [(MO, .inr (12, oX12 aMO MO_taped MO_size MO_faultKind MO_faultPlace MO_at MO_end MO_token MO_number MO_name MO_bank MO_rb MO_codes MO_within MO_piled MO_unitsInRule MO_askThing MO_acts MO_undone MO_laid MO_heards MO_time)), ((aMO 11), .inl (cI, 2, .inl MO_rooms)), ((aMO 12), .inl (cI, 2, .inl MO_doors)), ((aMO 17), .inl (cI, 24, .inl MO_one)), ((aMO 18), .inl (cI, 24, .inl MO_other))] [.ref MO]) (vp_Si (fun r => True)) 0 0 (fun _ => False) := by
  refine Met.ofW (cc := cX12_pieces) (maxL := 4) (ret := (some .int)) (by decide) rfl ?_
  intro p e s m args below meth c s₁ B hml hv
  obtain ⟨rfl, hP, hK⟩ := hv
  have hx := B.exec
  have hb := B.bytes
  have hr := B.returns
  have hts := atoms_spec (ws := wsX12_pieces) B.pre
  have hown : s.vm.findClass RX12 = some m.cls := findClass_of_methodNamed B.named
  have hlocks := B.notSynchronized
  clear B
  have hl := lv_entry ([.ref MO]) (n := 4) (Nat.le_of_ble_eq_true rfl)
  rw [lg_entry_eq]
  generalize (lg_sl ([.ref MO]) ++ List.replicate (4 - (lg_sl ([.ref MO])).length) Slot.unset).toArray = ls at hl ⊢
  replace hl : lv_has ls 4 [(0, .ref MO)] := hl
  refine zz_abs (R := ({ frames := 3, cells := 0, slots := 0, locals := 71 } : Room)) (fun Q up => ?_)
  refine lv_iconst (v := 1) hx hb dX12_pieces_0 (by decide) ?_
  refine lv_aload_n hx hb dX12_pieces_1 rfl (lv_at hl 0 rfl) ?_
  have hPc := hP.sub (ws' := [(MO, .inr (12, oX12 aMO MO_taped MO_size MO_faultKind MO_faultPlace MO_at MO_end MO_token MO_number MO_name MO_bank MO_rb MO_codes MO_within MO_piled MO_unitsInRule MO_askThing MO_acts MO_undone MO_laid MO_heards MO_time)), ((aMO 11), .inl (cI, 2, .inl MO_rooms))]) [0, 1] rfl
  refine vp_callSi (va_runV (As := []) (rest := [.int 1]) ⟨hx, hb, hml, hown, hts⟩ (c_X12_places l D cI cB cL cZ cG MO aMO MO_taped MO_size MO_faultKind MO_faultPlace MO_at MO_end MO_token MO_number MO_name MO_bank MO_rb MO_codes MO_within MO_piled MO_unitsInRule MO_askThing MO_acts MO_undone MO_laid MO_heards MO_time MO_rooms b_MO_taped b_MO_size b_MO_faultKind b_MO_at b_MO_end b_MO_token b_MO_bank b_MO_rb b_MO_codes b_MO_within b_MO_piled b_MO_unitsInRule b_MO_askThing b_MO_acts b_MO_undone b_MO_laid b_MO_heards b_MO_time s_MO_rooms_0) (cwV 0 hts gX12_pieces_X12_places rfl rfl rfl (by decide +kernel) ⟨Nat.le_of_ble_eq_true rfl, Nat.le_of_ble_eq_true rfl⟩) ⟨xr_blind, va_recv hK hP (ci := 12) (q0 := 0) rfl rfl, fun U hU hW => xr_mk hU hW hPc hK⟩ rfl rfl hl.1 rfl (lv_room (Nat.le_of_ble_eq_true rfl)) dX12_pieces_2 ⟨Nat.le_of_ble_eq_true rfl, Nat.le_of_ble_eq_true rfl⟩).run (fun r2 hr2 => ?_)
  obtain ⟨hr2, p2_v⟩ := hr2
  clear hPc
  refine lv_ishl hx hb dX12_pieces_5 ?_
  refine zi_top (a := 1) (b := 256) (zB_shl1 hr2 (by decide) (by decide) (by decide) (by decide)) (fun y5 by5 => ?_)
  refine lv_iconst (v := 1) hx hb dX12_pieces_6 (by decide) ?_
  refine lv_isub hx hb dX12_pieces_7 ?_
  refine zi_top2 (P := fun y => y.toInt = y5.toInt + (-1)) (a := 0) (b := 255) (zB_sub by5 (show zB 1 1 1 from ⟨by decide, by decide⟩) (by decide) (by decide) (by decide) (by decide)) (zR_subc by5 (by decide) (by decide) (by decide)) (fun y7 by7 ry7 => ?_)
  refine lv_istore_n (lv' := [(1, .int y7), (0, .ref MO)]) hx hb dX12_pieces_8 rfl hl (by decide) rfl (fun ls hl => ?_)
  refine lv_iconst (v := 0) hx hb dX12_pieces_9 (by decide) ?_
  refine lv_istore_n (lv' := [(2, .int 0), (1, .int y7), (0, .ref MO)]) hx hb dX12_pieces_10 rfl hl (by decide) rfl (fun ls hl => ?_)
  refine lv_iconst (v := 0) hx hb dX12_pieces_11 (by decide) ?_
  have j13 : ∀ (n13 : Nat) (ls : Array Slot) (v13_3 : Int32) (v13_2 : Int32) (v13_1 : Int32), zB v13_3 0 8 → zB v13_1 0 255 → zA MO_rooms 0 2 0 8 → zA MO_doors 0 2 0 12 → zA MO_one 0 24 0 7 → zA MO_other 0 24 0 7 → (8 + 1 - v13_3.toInt) ≤ (n13 : Int) → lv_has ls 4 [(3, .int v13_3), (2, .int v13_2), (1, .int v13_1), (0, .ref MO)] → W p l e ({ frames := 3, cells := 0, slots := 0, locals := 71 } : Room) s m ([.ref MO] : List Value).toArray below meth c s.heap [] 0 0 Q (F0 m 13 ls []) := by
    intro n13
    induction n13 with
    | zero => intro ls v13_3 v13_2 v13_1 bv13_3_k13 bv13_1_k13 sMO_rooms_0_k13 sMO_doors_0_k13 sMO_one_0_k13 sMO_other_0_k13 hm13 hl; exact zM_u0 bv13_3_k13 hm13
    | succ n13 ih13 =>
      intro ls v13_3 v13_2 v13_1 bv13_3_k13 bv13_1_k13 sMO_rooms_0_k13 sMO_doors_0_k13 sMO_one_0_k13 sMO_other_0_k13 hm13 hl
      refine lv_iload_n hx hb dX12_pieces_13 rfl (lv_at hl 0 rfl) ?_
      refine lv_aload_n hx hb dX12_pieces_14 rfl (lv_at hl 3 rfl) ?_
      have hPc := hP.sub (ws' := [(MO, .inr (12, oX12 aMO MO_taped MO_size MO_faultKind MO_faultPlace MO_at MO_end MO_token MO_number MO_name MO_bank MO_rb MO_codes MO_within MO_piled MO_unitsInRule MO_askThing MO_acts MO_undone MO_laid MO_heards MO_time)), ((aMO 11), .inl (cI, 2, .inl MO_rooms))]) [0, 1] rfl
      refine vp_callSi (va_runV (As := []) (rest := [.int v13_3]) ⟨hx, hb, hml, hown, hts⟩ (c_X12_places l D cI cB cL cZ cG MO aMO MO_taped MO_size MO_faultKind MO_faultPlace MO_at MO_end MO_token MO_number MO_name MO_bank MO_rb MO_codes MO_within MO_piled MO_unitsInRule MO_askThing MO_acts MO_undone MO_laid MO_heards MO_time MO_rooms b_MO_taped b_MO_size b_MO_faultKind b_MO_at b_MO_end b_MO_token b_MO_bank b_MO_rb b_MO_codes b_MO_within b_MO_piled b_MO_unitsInRule b_MO_askThing b_MO_acts b_MO_undone b_MO_laid b_MO_heards b_MO_time sMO_rooms_0_k13) (cwV 0 hts gX12_pieces_X12_places rfl rfl rfl (by decide +kernel) ⟨Nat.le_of_ble_eq_true rfl, Nat.le_of_ble_eq_true rfl⟩) ⟨xr_blind, va_recv hK hP (ci := 12) (q0 := 0) rfl rfl, fun U hU hW => xr_mk hU hW hPc hK⟩ rfl rfl hl.1 rfl (lv_room (Nat.le_of_ble_eq_true rfl)) dX12_pieces_15 ⟨Nat.le_of_ble_eq_true rfl, Nat.le_of_ble_eq_true rfl⟩).run (fun r15 hr15 => ?_)
      obtain ⟨hr15, p15_v⟩ := hr15
      clear hPc
      refine lv_icmp_ge (tgt := 52) hx hb dX12_pieces_18 (by decide) (fun c18 => ?_) (fun c18 => ?_)
      · refine lv_iload_n hx hb dX12_pieces_52 rfl (lv_at hl 1 rfl) ?_
        exact up _ _ _ (W.iret (v := v13_2) hx hb hr (fun t ht hW => ⟨v13_2, rfl, trivial, ht⟩) (fun q hq => by cases hq) dX12_pieces_53)
      · have bx18f_v13_3 : zB v13_3 0 7 := zB_ltu (zf c18) bv13_3_k13 hr15 (by decide)
        have by18f_r15 : zB r15 1 8 := zB_ltv (zf c18) bx18f_v13_3 hr15 (by decide)
        refine lv_iload_n hx hb dX12_pieces_21 rfl (lv_at hl 2 rfl) ?_
        refine lv_iload_n hx hb dX12_pieces_22 rfl (lv_at hl 0 rfl) ?_
        have hPc := hP.sub (ws' := []) [] rfl
        refine vp_callSi (va_runS (As := [.int v13_1, .int v13_3]) (rest := []) ⟨hx, hb, hml, hown, hts⟩ (c_X12_has l D cI cB cL cZ cG v13_1 v13_3) (va_cwS 2 hts gX12_pieces_X12_has rfl rfl rfl (by decide +kernel) ⟨Nat.le_of_ble_eq_true rfl, Nat.le_of_ble_eq_true rfl⟩) ⟨xr_blind, fun U hU hW => xr_mk hU hW hPc hK⟩ rfl rfl hl.1 rfl (lv_room (Nat.le_of_ble_eq_true rfl)) dX12_pieces_23 ⟨Nat.le_of_ble_eq_true rfl, Nat.le_of_ble_eq_true rfl⟩).run (fun r23 hr23 => ?_)
        obtain ⟨hr23, p23_t, p23_f⟩ := hr23
        clear hPc
        rcases hr23 with rfl | rfl
        · have j46 : ∀ (ls : Array Slot) (v46_2 : Int32) (v46_1 : Int32), zB v46_1 0 255 → zA MO_rooms 0 2 0 8 → zA MO_doors 0 2 0 12 → zA MO_one 0 24 0 7 → zA MO_other 0 24 0 7 → lv_has ls 4 [(3, .int v13_3), (2, .int v46_2), (1, .int v46_1), (0, .ref MO)] → W p l e ({ frames := 3, cells := 0, slots := 0, locals := 71 } : Room) s m ([.ref MO] : List Value).toArray below meth c s.heap [] 0 0 Q (F0 m 46 ls []) := by
            intro ls v46_2 v46_1 bv46_1_k46 sMO_rooms_0_k46 sMO_doors_0_k46 sMO_one_0_k46 sMO_other_0_k46 hl
            obtain ⟨y46, by46, ry46, ey46⟩ := zi_inc (x := v13_3) (k := 1) (a := 1) (b := 8) bx18f_v13_3 (by decide) (by decide) (by decide) (by decide) (by decide)
            refine lv_iinc (v := y46) (lv' := [(3, .int y46), (2, .int v46_2), (1, .int v46_1), (0, .ref MO)]) hx hb dX12_pieces_46 hl (k := 0) rfl ey46 (by decide) rfl (fun ls hl => ?_)
            refine lv_goto (tgt := 13) hx hb dX12_pieces_49 (by decide) ?_
            exact ih13 ls y46 v46_2 v46_1 (zB_w by46 (by decide) (by decide)) bv46_1_k46 sMO_rooms_0_k46 sMO_doors_0_k46 sMO_one_0_k46 sMO_other_0_k46 (zM_us (k := 1) hm13 ry46 (by decide)) (lv_sub hl [0, 1, 2, 3] rfl)
          refine lv_if_ne (tgt := 32) hx hb dX12_pieces_26 (by decide) (fun c26 => absurd (by decide) c26) (fun _ => ?_)
          refine lv_goto (tgt := 46) hx hb dX12_pieces_29 (by decide) ?_
          exact j46 ls v13_2 v13_1 bv13_1_k13 sMO_rooms_0_k13 sMO_doors_0_k13 sMO_one_0_k13 sMO_other_0_k13 (lv_sub hl [0, 1, 2, 3] rfl)
        · have j46 : ∀ (ls : Array Slot) (v46_2 : Int32) (v46_1 : Int32), zB v46_1 0 255 → zA MO_rooms 0 2 0 8 → zA MO_doors 0 2 0 12 → zA MO_one 0 24 0 7 → zA MO_other 0 24 0 7 → lv_has ls 4 [(3, .int v13_3), (2, .int v46_2), (1, .int v46_1), (0, .ref MO)] → W p l e ({ frames := 3, cells := 0, slots := 0, locals := 71 } : Room) s m ([.ref MO] : List Value).toArray below meth c s.heap [] 0 0 Q (F0 m 46 ls []) := by
            intro ls v46_2 v46_1 bv46_1_k46 sMO_rooms_0_k46 sMO_doors_0_k46 sMO_one_0_k46 sMO_other_0_k46 hl
            obtain ⟨y46, by46, ry46, ey46⟩ := zi_inc (x := v13_3) (k := 1) (a := 1) (b := 8) bx18f_v13_3 (by decide) (by decide) (by decide) (by decide) (by decide)
            refine lv_iinc (v := y46) (lv' := [(3, .int y46), (2, .int v46_2), (1, .int v46_1), (0, .ref MO)]) hx hb dX12_pieces_46 hl (k := 0) rfl ey46 (by decide) rfl (fun ls hl => ?_)
            refine lv_goto (tgt := 13) hx hb dX12_pieces_49 (by decide) ?_
            exact ih13 ls y46 v46_2 v46_1 (zB_w by46 (by decide) (by decide)) bv46_1_k46 sMO_rooms_0_k46 sMO_doors_0_k46 sMO_one_0_k46 sMO_other_0_k46 (zM_us (k := 1) hm13 ry46 (by decide)) (lv_sub hl [0, 1, 2, 3] rfl)
          refine lv_if_ne (tgt := 32) hx hb dX12_pieces_26 (by decide) (fun _ => ?_) (fun c26 => absurd c26 (by decide))
          refine lv_iload_n hx hb dX12_pieces_32 rfl (lv_at hl 2 rfl) ?_
          refine lv_aload_n hx hb dX12_pieces_33 rfl (lv_at hl 3 rfl) ?_
          refine lv_iload_n hx hb dX12_pieces_34 rfl (lv_at hl 0 rfl) ?_
          refine lv_iconst (v := (-1)) hx hb dX12_pieces_35 (by decide) ?_
          have hPc := hP.sub (ws' := [(MO, .inr (12, oX12 aMO MO_taped MO_size MO_faultKind MO_faultPlace MO_at MO_end MO_token MO_number MO_name MO_bank MO_rb MO_codes MO_within MO_piled MO_unitsInRule MO_askThing MO_acts MO_undone MO_laid MO_heards MO_time)), ((aMO 11), .inl (cI, 2, .inl MO_rooms)), ((aMO 12), .inl (cI, 2, .inl MO_doors)), ((aMO 17), .inl (cI, 24, .inl MO_one)), ((aMO 18), .inl (cI, 24, .inl MO_other))]) [0, 1, 2, 3, 4] rfl
          refine vp_callSi (va_runV (As := [.int v13_3, .int (-1)]) (rest := [.int v13_1]) ⟨hx, hb, hml, hown, hts⟩ (c_X12_joined l D cI cB cL cZ cG MO v13_3 (-1) aMO MO_taped MO_size MO_faultKind MO_faultPlace MO_at MO_end MO_token MO_number MO_name MO_bank MO_rb MO_codes MO_within MO_piled MO_unitsInRule MO_askThing MO_acts MO_undone MO_laid MO_heards MO_time MO_rooms MO_doors MO_one MO_other bx18f_v13_3 b_MO_taped b_MO_size b_MO_faultKind b_MO_at b_MO_end b_MO_token b_MO_bank b_MO_rb b_MO_codes b_MO_within b_MO_piled b_MO_unitsInRule b_MO_askThing b_MO_acts b_MO_undone b_MO_laid b_MO_heards b_MO_time sMO_rooms_0_k13 sMO_doors_0_k13 sMO_one_0_k13 sMO_other_0_k13) (cwV 2 hts gX12_pieces_X12_joined rfl rfl rfl (by decide +kernel) ⟨Nat.le_of_ble_eq_true rfl, Nat.le_of_ble_eq_true rfl⟩) ⟨xr_blind, va_recv hK hP (ci := 12) (q0 := 0) rfl rfl, fun U hU hW => xr_mk hU hW hPc hK⟩ rfl rfl hl.1 rfl (lv_room (Nat.le_of_ble_eq_true rfl)) dX12_pieces_36 ⟨Nat.le_of_ble_eq_true rfl, Nat.le_of_ble_eq_true rfl⟩).run (fun r36 hr36 => ?_)
          clear hPc
          refine lv_iconst (v := (-1)) hx hb dX12_pieces_39 (by decide) ?_
          refine lv_ixor hx hb dX12_pieces_40 ?_
          refine zi_top (a := (-256)) (b := (-2)) (zB_not hr36 (by decide) (by decide)) (fun y40 by40 => ?_)
          refine lv_iand hx hb dX12_pieces_41 ?_
          refine zi_top (a := 0) (b := 255) (zB_andl bv13_1_k13 (by decide)) (fun y41 by41 => ?_)
          refine lv_istore_n (lv' := [(1, .int y41), (3, .int v13_3), (2, .int v13_2), (0, .ref MO)]) hx hb dX12_pieces_42 rfl hl (by decide) rfl (fun ls hl => ?_)
          obtain ⟨y43, ey43⟩ : ∃ y : Int32, v13_2 + Int32.ofInt 1 = y := ⟨_, rfl⟩
          refine lv_iinc (v := y43) (lv' := [(2, .int y43), (1, .int y41), (3, .int v13_3), (0, .ref MO)]) hx hb dX12_pieces_43 hl (k := 2) rfl ey43 (by decide) rfl (fun ls hl => ?_)
          exact j46 ls y43 y41 by41 sMO_rooms_0_k13 sMO_doors_0_k13 sMO_one_0_k13 sMO_other_0_k13 (lv_sub hl [2, 0, 1, 3] rfl)
  refine lv_istore_n (lv' := [(3, .int 0), (2, .int 0), (1, .int y7), (0, .ref MO)]) hx hb dX12_pieces_12 rfl hl (by decide) rfl (fun ls hl => ?_)
  exact j13 9 ls 0 0 y7 (zB_w (show zB 0 0 0 from ⟨by decide, by decide⟩) (by decide) (by decide)) by7 s_MO_rooms_0 s_MO_doors_0 s_MO_one_0 s_MO_other_0 (zM_ui (show zB 0 0 0 from ⟨by decide, by decide⟩) (by decide)) (lv_sub hl [0, 1, 2, 3] rfl)
set_option maxHeartbeats 4000000 in
set_option maxRecDepth 100000 in
theorem c_X12_parts (l : Launch) (D : va_G) (cI : ClassId) (cB : ClassId) (cL : ClassId) (cZ : ClassId) (cG : ClassId) (MO : Nat) (aMO : Nat → Nat) (MO_taped : Int32) (MO_size : Int32) (MO_faultKind : Int32) (MO_faultPlace : Int32) (MO_at : Int32) (MO_end : Int32) (MO_token : Int32) (MO_number : Int32) (MO_name : Int64) (MO_bank : Int32) (MO_rb : Int32) (MO_codes : Int32) (MO_within : Int32) (MO_piled : Int32) (MO_unitsInRule : Int32) (MO_askThing : Int32) (MO_acts : Int32) (MO_undone : Int32) (MO_laid : Int32) (MO_heards : Int32) (MO_time : Int32) (MO_doors : Nat → Int32) (MO_nearSide : Nat → Int32) (MO_other : Nat → Int32) (b_MO_taped : zB MO_taped 0 1600) (b_MO_size : zB MO_size 0 1600) (b_MO_faultKind : zB MO_faultKind 0 5) (b_MO_at : zB MO_at 0 1600) (b_MO_end : zB MO_end 0 1600) (b_MO_token : zB MO_token 0 5) (b_MO_bank : zB MO_bank 0 1) (b_MO_rb : zB MO_rb 0 1) (b_MO_codes : zB MO_codes 0 1120) (b_MO_within : zB MO_within 0 7) (b_MO_piled : zB MO_piled 0 89) (b_MO_unitsInRule : zB MO_unitsInRule 0 30) (b_MO_askThing : zB MO_askThing 0 5) (b_MO_acts : zB MO_acts 0 40) (b_MO_undone : zB MO_undone 0 40) (b_MO_laid : zB MO_laid 0 8) (b_MO_heards : zB MO_heards 0 30) (b_MO_time : zB MO_time 0 100000) (s_MO_doors_0 : zA MO_doors 0 2 0 12) (s_MO_nearSide_0 : zA MO_nearSide 0 12 0 255) (s_MO_other_0 : zA MO_other 0 24 0 7) : Met l yX12_parts wsX12_parts ({ frames := 2, cells := 0, slots := 0, locals := 42 }) (xr D [(cI, .int), (cB, .byte), (cL, .long), (cZ, .boolean), (cG, .array .int)] [(MO, .inr (12, oX12 aMO MO_taped MO_size MO_faultKind MO_faultPlace MO_at MO_end MO_token MO_number MO_name MO_bank MO_rb MO_codes MO_within MO_piled MO_unitsInRule MO_askThing MO_acts MO_undone MO_laid MO_heards MO_time)), ((aMO 12), .inl (cI, 2, .inl MO_doors)), ((aMO 44), .inl (cI, 12, .inl MO_nearSide)), ((aMO 18), .inl (cI, 24, .inl MO_other))] [.ref MO]) (vp_Si (fun r => True)) 0 0 (fun _ => False) := by
  refine Met.ofW (cc := cX12_parts) (maxL := 3) (ret := (some .int)) (by decide) rfl ?_
  intro p e s m args below meth c s₁ B hml hv
  obtain ⟨rfl, hP, hK⟩ := hv
  have hx := B.exec
  have hb := B.bytes
  have hr := B.returns
  have hts := atoms_spec (ws := wsX12_parts) B.pre
  have hown : s.vm.findClass RX12 = some m.cls := findClass_of_methodNamed B.named
  have hlocks := B.notSynchronized
  clear B
  have hl := lv_entry ([.ref MO]) (n := 3) (Nat.le_of_ble_eq_true rfl)
  rw [lg_entry_eq]
  generalize (lg_sl ([.ref MO]) ++ List.replicate (3 - (lg_sl ([.ref MO])).length) Slot.unset).toArray = ls at hl ⊢
  replace hl : lv_has ls 3 [(0, .ref MO)] := hl
  refine zz_abs (R := ({ frames := 2, cells := 0, slots := 0, locals := 42 } : Room)) (fun Q up => ?_)
  refine lv_iconst (v := 0) hx hb dX12_parts_0 (by decide) ?_
  refine lv_istore_n (lv' := [(1, .int 0), (0, .ref MO)]) hx hb dX12_parts_1 rfl hl (by decide) rfl (fun ls hl => ?_)
  refine lv_iconst (v := 0) hx hb dX12_parts_2 (by decide) ?_
  have j4 : ∀ (n4 : Nat) (ls : Array Slot) (v4_2 : Int32) (v4_1 : Int32), zB v4_2 0 12 → zA MO_doors 0 2 0 12 → zA MO_nearSide 0 12 0 255 → zA MO_other 0 24 0 7 → (12 + 1 - v4_2.toInt) ≤ (n4 : Int) → lv_has ls 3 [(2, .int v4_2), (1, .int v4_1), (0, .ref MO)] → W p l e ({ frames := 2, cells := 0, slots := 0, locals := 42 } : Room) s m ([.ref MO] : List Value).toArray below meth c s.heap [] 0 0 Q (F0 m 4 ls []) := by
    intro n4
    induction n4 with
    | zero => intro ls v4_2 v4_1 bv4_2_k4 sMO_doors_0_k4 sMO_nearSide_0_k4 sMO_other_0_k4 hm4 hl; exact zM_u0 bv4_2_k4 hm4
    | succ n4 ih4 =>
      intro ls v4_2 v4_1 bv4_2_k4 sMO_doors_0_k4 sMO_nearSide_0_k4 sMO_other_0_k4 hm4 hl
      refine lv_iload_n hx hb dX12_parts_4 rfl (lv_at hl 0 rfl) ?_
      refine lv_aload_n hx hb dX12_parts_5 rfl (lv_at hl 2 rfl) ?_
      refine va_get (D := D) (ci := 12) (v := .ref (aMO 12)) (C := RX12) (T := TX12) (N := 71) hx hb hts iw_X12_parts_X12 hown hK hP 0 rfl rfl 12 (by decide) (hts (.fieldLink RX12 24 "SoldHouseModel" "doors" "[I") (List.mem_of_getElem? (i := 1) rfl)) (fun _ h9 => h9) rfl dX12_parts_6 ?_
      refine lv_aload_n hx hb dX12_parts_9 rfl (lv_at hl 2 rfl) ?_
      refine va_get (D := D) (ci := 12) (v := .int MO_bank) (C := RX12) (T := TX12) (N := 71) hx hb hts iw_X12_parts_X12 hown hK hP 0 rfl rfl 35 (by decide) (hts (.fieldLink RX12 280 "SoldHouseModel" "bank" "I") (List.mem_of_getElem? (i := 2) rfl)) (fun _ h9 => h9) rfl dX12_parts_10 ?_
      refine va_iald hx hb hK hP 1 0 rfl rfl (zB_in b_MO_bank (by decide) (by decide)) dX12_parts_13 ?_
      refine zi_top (a := 0) (b := 12) (zA_at sMO_doors_0_k4 b_MO_bank (by decide) (by decide)) (fun y13 by13 => ?_)
      refine lv_icmp_ge (tgt := 37) hx hb dX12_parts_14 (by decide) (fun c14 => ?_) (fun c14 => ?_)
      · refine lv_iload_n hx hb dX12_parts_37 rfl (lv_at hl 1 rfl) ?_
        exact up _ _ _ (W.iret (v := v4_1) hx hb hr (fun t ht hW => ⟨v4_1, rfl, trivial, ht⟩) (fun q hq => by cases hq) dX12_parts_38)
      · have bx14f_v4_2 : zB v4_2 0 11 := zB_ltu (zf c14) bv4_2_k4 by13 (by decide)
        have by14f_y13 : zB y13 1 12 := zB_ltv (zf c14) bx14f_v4_2 by13 (by decide)
        refine lv_aload_n hx hb dX12_parts_17 rfl (lv_at hl 2 rfl) ?_
        refine lv_iload_n hx hb dX12_parts_18 rfl (lv_at hl 0 rfl) ?_
        have hPc := hP.sub (ws' := [(MO, .inr (12, oX12 aMO MO_taped MO_size MO_faultKind MO_faultPlace MO_at MO_end MO_token MO_number MO_name MO_bank MO_rb MO_codes MO_within MO_piled MO_unitsInRule MO_askThing MO_acts MO_undone MO_laid MO_heards MO_time)), ((aMO 44), .inl (cI, 12, .inl MO_nearSide)), ((aMO 18), .inl (cI, 24, .inl MO_other))]) [0, 2, 3] rfl
        refine vp_callSi (va_runV (As := [.int v4_2]) (rest := []) ⟨hx, hb, hml, hown, hts⟩ (c_X12_doesPart l D cI cB cL cZ cG MO v4_2 aMO MO_taped MO_size MO_faultKind MO_faultPlace MO_at MO_end MO_token MO_number MO_name MO_bank MO_rb MO_codes MO_within MO_piled MO_unitsInRule MO_askThing MO_acts MO_undone MO_laid MO_heards MO_time MO_nearSide MO_other bx14f_v4_2 b_MO_taped b_MO_size b_MO_faultKind b_MO_at b_MO_end b_MO_token b_MO_bank b_MO_rb b_MO_codes b_MO_within b_MO_piled b_MO_unitsInRule b_MO_askThing b_MO_acts b_MO_undone b_MO_laid b_MO_heards b_MO_time sMO_nearSide_0_k4 sMO_other_0_k4) (cwV 1 hts gX12_parts_X12_doesPart rfl rfl rfl (by decide +kernel) ⟨Nat.le_of_ble_eq_true rfl, Nat.le_of_ble_eq_true rfl⟩) ⟨xr_blind, va_recv hK hP (ci := 12) (q0 := 0) rfl rfl, fun U hU hW => xr_mk hU hW hPc hK⟩ rfl rfl hl.1 rfl (lv_room (Nat.le_of_ble_eq_true rfl)) dX12_parts_19 ⟨Nat.le_of_ble_eq_true rfl, Nat.le_of_ble_eq_true rfl⟩).run (fun r19 hr19 => ?_)
        clear hPc
        have j31 : ∀ (ls : Array Slot) (v31_1 : Int32), zA MO_doors 0 2 0 12 → zA MO_nearSide 0 12 0 255 → zA MO_other 0 24 0 7 → lv_has ls 3 [(2, .int v4_2), (1, .int v31_1), (0, .ref MO)] → W p l e ({ frames := 2, cells := 0, slots := 0, locals := 42 } : Room) s m ([.ref MO] : List Value).toArray below meth c s.heap [] 0 0 Q (F0 m 31 ls []) := by
          intro ls v31_1 sMO_doors_0_k31 sMO_nearSide_0_k31 sMO_other_0_k31 hl
          obtain ⟨y31, by31, ry31, ey31⟩ := zi_inc (x := v4_2) (k := 1) (a := 1) (b := 12) bx14f_v4_2 (by decide) (by decide) (by decide) (by decide) (by decide)
          refine lv_iinc (v := y31) (lv' := [(2, .int y31), (1, .int v31_1), (0, .ref MO)]) hx hb dX12_parts_31 hl (k := 0) rfl ey31 (by decide) rfl (fun ls hl => ?_)
          refine lv_goto (tgt := 4) hx hb dX12_parts_34 (by decide) ?_
          exact ih4 ls y31 v31_1 (zB_w by31 (by decide) (by decide)) sMO_doors_0_k31 sMO_nearSide_0_k31 sMO_other_0_k31 (zM_us (k := 1) hm4 ry31 (by decide)) (lv_sub hl [0, 1, 2] rfl)
        refine lv_if_eq (tgt := 31) hx hb dX12_parts_22 (by decide) (fun c22 => ?_) (fun c22 => ?_)
        · have be22t_r19 : zB r19 0 0 := zB_eq c22 hr19 (show zB 0 0 0 from ⟨by decide, by decide⟩) (by decide) (by decide)
          exact j31 ls v4_1 sMO_doors_0_k4 sMO_nearSide_0_k4 sMO_other_0_k4 (lv_sub hl [0, 1, 2] rfl)
        · have bn22f_r19 : zB r19 1 1 := zB_neL c22 hr19 (show zB 0 0 0 from ⟨by decide, by decide⟩) (by decide)
          refine lv_iload_n hx hb dX12_parts_25 rfl (lv_at hl 1 rfl) ?_
          refine lv_iconst (v := 1) hx hb dX12_parts_26 (by decide) ?_
          refine lv_iload_n hx hb dX12_parts_27 rfl (lv_at hl 0 rfl) ?_
          refine lv_ishl hx hb dX12_parts_28 ?_
          refine zi_top (a := 1) (b := 2048) (zB_shl1 bx14f_v4_2 (by decide) (by decide) (by decide) (by decide)) (fun y28 by28 => ?_)
          refine lv_ior hx hb dX12_parts_29 ?_
          refine lv_topi (fun y29 _ => ?_)
          refine lv_istore_n (lv' := [(1, .int y29), (2, .int v4_2), (0, .ref MO)]) hx hb dX12_parts_30 rfl hl (by decide) rfl (fun ls hl => ?_)
          exact j31 ls y29 sMO_doors_0_k4 sMO_nearSide_0_k4 sMO_other_0_k4 (lv_sub hl [1, 0, 2] rfl)
  refine lv_istore_n (lv' := [(2, .int 0), (1, .int 0), (0, .ref MO)]) hx hb dX12_parts_3 rfl hl (by decide) rfl (fun ls hl => ?_)
  exact j4 13 ls 0 0 (zB_w (show zB 0 0 0 from ⟨by decide, by decide⟩) (by decide) (by decide)) s_MO_doors_0 s_MO_nearSide_0 s_MO_other_0 (zM_ui (show zB 0 0 0 from ⟨by decide, by decide⟩) (by decide)) (lv_sub hl [0, 1, 2] rfl)
set_option maxHeartbeats 4000000 in
set_option maxRecDepth 100000 in
theorem c_X12_layHunts (l : Launch) (D : va_G) (cI : ClassId) (cB : ClassId) (cL : ClassId) (cZ : ClassId) (cG : ClassId) (MO : Nat) (aMO : Nat → Nat) (MO_taped : Int32) (MO_size : Int32) (MO_faultKind : Int32) (MO_faultPlace : Int32) (MO_at : Int32) (MO_end : Int32) (MO_token : Int32) (MO_number : Int32) (MO_name : Int64) (MO_bank : Int32) (MO_rb : Int32) (MO_codes : Int32) (MO_within : Int32) (MO_piled : Int32) (MO_unitsInRule : Int32) (MO_askThing : Int32) (MO_acts : Int32) (MO_undone : Int32) (MO_laid : Int32) (MO_heards : Int32) (MO_time : Int32) (MO_rooms : Nat → Int32) (MO_hunts : Nat → Int32) (MO_firsts : Nat → Int32) (MO_doors : Nat → Int32) (MO_nearSide : Nat → Int32) (MO_other : Nat → Int32) (sz : Nat) (b_MO_taped : zB MO_taped 0 1600) (b_MO_size : zB MO_size 0 1600) (b_MO_faultKind : zB MO_faultKind 0 5) (b_MO_at : zB MO_at 0 1600) (b_MO_end : zB MO_end 0 1600) (b_MO_token : zB MO_token 0 5) (b_MO_bank : zB MO_bank 0 1) (b_MO_rb : zB MO_rb 0 1) (b_MO_codes : zB MO_codes 0 1120) (b_MO_within : zB MO_within 0 7) (b_MO_piled : zB MO_piled 0 89) (b_MO_unitsInRule : zB MO_unitsInRule 0 30) (b_MO_askThing : zB MO_askThing 0 5) (b_MO_acts : zB MO_acts 0 40) (b_MO_undone : zB MO_undone 0 40) (b_MO_laid : zB MO_laid 0 8) (b_MO_heards : zB MO_heards 0 30) (b_MO_time : zB MO_time 0 100000) (s_MO_rooms_0 : zA MO_rooms 0 2 0 8) (s_MO_doors_0 : zA MO_doors 0 2 0 12) (s_MO_nearSide_0 : zA MO_nearSide 0 12 0 255) (s_MO_other_0 : zA MO_other 0 24 0 7) : Met l yX12_layHunts wsX12_layHunts ({ frames := 2, cells := 0, slots := 0, locals := 42 }) (xp D [(cI, .int), (cB, .byte), (cL, .long), (cZ, .boolean), (cG, .array .int)] [(MO, .inr (12, oX12 aMO MO_taped MO_size MO_faultKind MO_faultPlace MO_at MO_end MO_token MO_number MO_name MO_bank MO_rb MO_codes MO_within MO_piled MO_unitsInRule MO_askThing MO_acts MO_undone MO_laid MO_heards MO_time)), ((aMO 11), .inl (cI, 2, .inl MO_rooms)), ((aMO 54), .inl (cI, 256, .inl MO_hunts)), ((aMO 55), .inl (cI, 256, .inl MO_firsts)), ((aMO 12), .inl (cI, 2, .inl MO_doors)), ((aMO 44), .inl (cI, 12, .inl MO_nearSide)), ((aMO 18), .inl (cI, 24, .inl MO_other))] sz [] [.ref MO]) (va_Qv (fun _ : Unit => True) (fun (_ : Unit) (t : State) => ∃ (nMOhunts : Nat → Int32), ∃ (nMOfirsts : Nat → Int32), xB D (va_A [(MO, .inr (12, oX12 aMO MO_taped MO_size MO_faultKind MO_faultPlace MO_at MO_end MO_token MO_number MO_name MO_bank MO_rb MO_codes MO_within MO_piled MO_unitsInRule MO_askThing MO_acts MO_undone MO_laid MO_heards MO_time)), ((aMO 11), .inl (cI, 2, .inl MO_rooms)), ((aMO 54), .inl (cI, 256, .inl MO_hunts)), ((aMO 55), .inl (cI, 256, .inl MO_firsts)), ((aMO 12), .inl (cI, 2, .inl MO_doors)), ((aMO 44), .inl (cI, 12, .inl MO_nearSide)), ((aMO 18), .inl (cI, 24, .inl MO_other))] sz) [(MO, .inr (12, oX12 aMO MO_taped MO_size MO_faultKind MO_faultPlace MO_at MO_end MO_token MO_number MO_name MO_bank MO_rb MO_codes MO_within MO_piled MO_unitsInRule MO_askThing MO_acts MO_undone MO_laid MO_heards MO_time)), ((aMO 11), .inl (cI, 2, .inl MO_rooms)), ((aMO 54), .inl (cI, 256, .inl nMOhunts)), ((aMO 55), .inl (cI, 256, .inl nMOfirsts)), ((aMO 12), .inl (cI, 2, .inl MO_doors)), ((aMO 44), .inl (cI, 12, .inl MO_nearSide)), ((aMO 18), .inl (cI, 24, .inl MO_other))] t) (va_A [(MO, .inr (12, oX12 aMO MO_taped MO_size MO_faultKind MO_faultPlace MO_at MO_end MO_token MO_number MO_name MO_bank MO_rb MO_codes MO_within MO_piled MO_unitsInRule MO_askThing MO_acts MO_undone MO_laid MO_heards MO_time)), ((aMO 11), .inl (cI, 2, .inl MO_rooms)), ((aMO 54), .inl (cI, 256, .inl MO_hunts)), ((aMO 55), .inl (cI, 256, .inl MO_firsts)), ((aMO 12), .inl (cI, 2, .inl MO_doors)), ((aMO 44), .inl (cI, 12, .inl MO_nearSide)), ((aMO 18), .inl (cI, 24, .inl MO_other))] sz)) 0 0 (va_A [(MO, .inr (12, oX12 aMO MO_taped MO_size MO_faultKind MO_faultPlace MO_at MO_end MO_token MO_number MO_name MO_bank MO_rb MO_codes MO_within MO_piled MO_unitsInRule MO_askThing MO_acts MO_undone MO_laid MO_heards MO_time)), ((aMO 11), .inl (cI, 2, .inl MO_rooms)), ((aMO 54), .inl (cI, 256, .inl MO_hunts)), ((aMO 55), .inl (cI, 256, .inl MO_firsts)), ((aMO 12), .inl (cI, 2, .inl MO_doors)), ((aMO 44), .inl (cI, 12, .inl MO_nearSide)), ((aMO 18), .inl (cI, 24, .inl MO_other))] sz) := by
  refine Met.ofW (cc := cX12_layHunts) (maxL := 5) (ret := none) (by decide) rfl ?_
  intro p e s m args below meth c s₁ B hml hv
  obtain ⟨rfl, hsz, hP, hK, hD0, hNw⟩ := hv
  have hx := B.exec
  have hb := B.bytes
  have hr := B.returns
  have hts := atoms_spec (ws := wsX12_layHunts) B.pre
  have hown : s.vm.findClass RX12 = some m.cls := findClass_of_methodNamed B.named
  have hlocks := B.notSynchronized
  clear B
  subst hsz
  have hD := hD0.self (sz := s.heap.size)
  clear hD0 hNw
  generalize hAe : va_A [(MO, .inr (12, oX12 aMO MO_taped MO_size MO_faultKind MO_faultPlace MO_at MO_end MO_token MO_number MO_name MO_bank MO_rb MO_codes MO_within MO_piled MO_unitsInRule MO_askThing MO_acts MO_undone MO_laid MO_heards MO_time)), ((aMO 11), .inl (cI, 2, .inl MO_rooms)), ((aMO 54), .inl (cI, 256, .inl MO_hunts)), ((aMO 55), .inl (cI, 256, .inl MO_firsts)), ((aMO 12), .inl (cI, 2, .inl MO_doors)), ((aMO 44), .inl (cI, 12, .inl MO_nearSide)), ((aMO 18), .inl (cI, 24, .inl MO_other))] s.heap.size = A at hD ⊢
  have hA : ∀ q : Nat, s.heap.size ≤ q → A q := fun q h => by rw [← hAe]; exact Or.inr h
  have hS : va_S A s.heap s.heap [] := va_S.rf
  clear hAe
  obtain ⟨H, hH⟩ : ∃ H : Heap, H = s.heap := ⟨_, rfl⟩
  obtain ⟨locs, hlocs⟩ : ∃ L : List Loc, L = [] := ⟨_, rfl⟩
  replace hP : va_P D classes [(MO, .inr (12, oX12 aMO MO_taped MO_size MO_faultKind MO_faultPlace MO_at MO_end MO_token MO_number MO_name MO_bank MO_rb MO_codes MO_within MO_piled MO_unitsInRule MO_askThing MO_acts MO_undone MO_laid MO_heards MO_time)), ((aMO 11), .inl (cI, 2, .inl MO_rooms)), ((aMO 54), .inl (cI, 256, .inl MO_hunts)), ((aMO 55), .inl (cI, 256, .inl MO_firsts)), ((aMO 12), .inl (cI, 2, .inl MO_doors)), ((aMO 44), .inl (cI, 12, .inl MO_nearSide)), ((aMO 18), .inl (cI, 24, .inl MO_other))] H := by rw [hH]; exact hP
  replace hS : va_S A s.heap H locs := by rw [hH, hlocs]; exact hS
  rw [← hH, ← hlocs]
  clear hlocs hH
  have hl := lv_entry ([.ref MO]) (n := 5) (Nat.le_of_ble_eq_true rfl)
  rw [lg_entry_eq]
  generalize (lg_sl ([.ref MO]) ++ List.replicate (5 - (lg_sl ([.ref MO])).length) Slot.unset).toArray = ls at hl ⊢
  replace hl : lv_has ls 5 [(0, .ref MO)] := hl
  refine zz_abs (R := ({ frames := 2, cells := 0, slots := 0, locals := 42 } : Room)) (fun Q up => ?_)
  refine lv_iconst (v := 1) hx hb dX12_layHunts_0 (by decide) ?_
  have j2 : ∀ (n2 : Nat) (H : Heap) (locs : List Loc) (ls : Array Slot) (v2_1 : Int32) (g2_aMO54 : Nat → Int32) (g2_aMO55 : Nat → Int32), zB v2_1 1 256 → zA MO_rooms 0 2 0 8 → zA MO_doors 0 2 0 12 → zA MO_nearSide 0 12 0 255 → zA MO_other 0 24 0 7 → (256 + 1 - v2_1.toInt) ≤ (n2 : Int) → va_P D classes [(MO, .inr (12, oX12 aMO MO_taped MO_size MO_faultKind MO_faultPlace MO_at MO_end MO_token MO_number MO_name MO_bank MO_rb MO_codes MO_within MO_piled MO_unitsInRule MO_askThing MO_acts MO_undone MO_laid MO_heards MO_time)), ((aMO 11), .inl (cI, 2, .inl MO_rooms)), ((aMO 54), .inl (cI, 256, .inl g2_aMO54)), ((aMO 55), .inl (cI, 256, .inl g2_aMO55)), ((aMO 12), .inl (cI, 2, .inl MO_doors)), ((aMO 44), .inl (cI, 12, .inl MO_nearSide)), ((aMO 18), .inl (cI, 24, .inl MO_other))] H → va_D A [(MO, .inr (12, oX12 aMO MO_taped MO_size MO_faultKind MO_faultPlace MO_at MO_end MO_token MO_number MO_name MO_bank MO_rb MO_codes MO_within MO_piled MO_unitsInRule MO_askThing MO_acts MO_undone MO_laid MO_heards MO_time)), ((aMO 11), .inl (cI, 2, .inl MO_rooms)), ((aMO 54), .inl (cI, 256, .inl g2_aMO54)), ((aMO 55), .inl (cI, 256, .inl g2_aMO55)), ((aMO 12), .inl (cI, 2, .inl MO_doors)), ((aMO 44), .inl (cI, 12, .inl MO_nearSide)), ((aMO 18), .inl (cI, 24, .inl MO_other))] → va_S A s.heap H locs → lv_has ls 5 [(1, .int v2_1), (0, .ref MO)] → W p l e ({ frames := 2, cells := 0, slots := 0, locals := 42 } : Room) s m ([.ref MO] : List Value).toArray below meth c H locs 0 0 Q (F0 m 2 ls []) := by
    intro n2
    induction n2 with
    | zero => intro H locs ls v2_1 g2_aMO54 g2_aMO55 bv2_1_k2 sMO_rooms_0_k2 sMO_doors_0_k2 sMO_nearSide_0_k2 sMO_other_0_k2 hm2 hP hD hS hl; exact zM_u0 bv2_1_k2 hm2
    | succ n2 ih2 =>
      intro H locs ls v2_1 g2_aMO54 g2_aMO55 bv2_1_k2 sMO_rooms_0_k2 sMO_doors_0_k2 sMO_nearSide_0_k2 sMO_other_0_k2 hm2 hP hD hS hl
      refine lv_iload_n hx hb dX12_layHunts_2 rfl (lv_at hl 0 rfl) ?_
      refine lv_iconst (v := 1) hx hb dX12_layHunts_3 (by decide) ?_
      refine lv_aload_n hx hb dX12_layHunts_4 rfl (lv_at hl 1 rfl) ?_
      have hPc := hP.sub (ws' := [(MO, .inr (12, oX12 aMO MO_taped MO_size MO_faultKind MO_faultPlace MO_at MO_end MO_token MO_number MO_name MO_bank MO_rb MO_codes MO_within MO_piled MO_unitsInRule MO_askThing MO_acts MO_undone MO_laid MO_heards MO_time)), ((aMO 11), .inl (cI, 2, .inl MO_rooms))]) [0, 1] rfl
      refine vp_callSi (va_runV (As := []) (rest := [.int 1, .int v2_1]) ⟨hx, hb, hml, hown, hts⟩ (c_X12_places l D cI cB cL cZ cG MO aMO MO_taped MO_size MO_faultKind MO_faultPlace MO_at MO_end MO_token MO_number MO_name MO_bank MO_rb MO_codes MO_within MO_piled MO_unitsInRule MO_askThing MO_acts MO_undone MO_laid MO_heards MO_time MO_rooms b_MO_taped b_MO_size b_MO_faultKind b_MO_at b_MO_end b_MO_token b_MO_bank b_MO_rb b_MO_codes b_MO_within b_MO_piled b_MO_unitsInRule b_MO_askThing b_MO_acts b_MO_undone b_MO_laid b_MO_heards b_MO_time sMO_rooms_0_k2) (cwV 0 hts gX12_layHunts_X12_places rfl rfl rfl (by decide +kernel) ⟨Nat.le_of_ble_eq_true rfl, Nat.le_of_ble_eq_true rfl⟩) ⟨xr_blind, va_recv hK hP (ci := 12) (q0 := 0) rfl rfl, fun U hU hW => xr_mk hU hW hPc hK⟩ rfl rfl hl.1 rfl (lv_room (Nat.le_of_ble_eq_true rfl)) dX12_layHunts_5 ⟨Nat.le_of_ble_eq_true rfl, Nat.le_of_ble_eq_true rfl⟩).run (fun r5 hr5 => ?_)
      obtain ⟨hr5, p5_v⟩ := hr5
      clear hPc
      refine lv_ishl hx hb dX12_layHunts_8 ?_
      refine zi_top (a := 1) (b := 256) (zB_shl1 hr5 (by decide) (by decide) (by decide) (by decide)) (fun y8 by8 => ?_)
      refine lv_icmp_ge (tgt := 177) hx hb dX12_layHunts_9 (by decide) (fun c9 => ?_) (fun c9 => ?_)
      · exact up _ _ _ (W.vret hx hb hr (fun t ht hW => ⟨⟨(), rfl, trivial, ⟨g2_aMO54, g2_aMO55, by rw [ht]; exact hP, hD⟩⟩, hS.F ht⟩) hS.2.2 dX12_layHunts_177)
      · have bx9f_v2_1 : zB v2_1 1 255 := zB_ltu (zf c9) bv2_1_k2 by8 (by decide)
        have by9f_y8 : zB y8 2 256 := zB_ltv (zf c9) bx9f_v2_1 by8 (by decide)
        refine lv_aload_n hx hb dX12_layHunts_12 rfl (lv_at hl 1 rfl) ?_
        refine va_get (D := D) (ci := 12) (v := .ref (aMO 54)) (C := RX12) (T := TX12) (N := 71) hx hb hts iw_X12_layHunts_X12 hown hK hP 0 rfl rfl 54 (by decide) (hts (.fieldLink RX12 122 "SoldHouseModel" "hunts" "[I") (List.mem_of_getElem? (i := 1) rfl)) (fun _ h9 => h9) rfl dX12_layHunts_13 ?_
        refine lv_iload_n hx hb dX12_layHunts_16 rfl (lv_at hl 0 rfl) ?_
        refine lv_iload_n hx hb dX12_layHunts_17 rfl (lv_at hl 0 rfl) ?_
        have hPc := hP.sub (ws' := []) [] rfl
        refine vp_callSi (va_runS (As := [.int v2_1]) (rest := [.int v2_1, .ref (aMO 54)]) ⟨hx, hb, hml, hown, hts⟩ (c_X12_bitsOf l D cI cB cL cZ cG v2_1 (zB_w bx9f_v2_1 (by decide) (by decide))) (va_cwS 1 hts gX12_layHunts_X12_bitsOf rfl rfl rfl (by decide +kernel) ⟨Nat.le_of_ble_eq_true rfl, Nat.le_of_ble_eq_true rfl⟩) ⟨xr_blind, fun U hU hW => xr_mk hU hW hPc hK⟩ rfl rfl hl.1 rfl (lv_room (Nat.le_of_ble_eq_true rfl)) dX12_layHunts_18 ⟨Nat.le_of_ble_eq_true rfl, Nat.le_of_ble_eq_true rfl⟩).run (fun r18 hr18 => ?_)
        clear hPc
        clear hr18
        refine lv_iconst (v := 1) hx hb dX12_layHunts_21 (by decide) ?_
        have j32 : ∀ (H : Heap) (locs : List Loc) (ls : Array Slot) (u32_0 : Int32), zB u32_0 0 10000 → zA MO_rooms 0 2 0 8 → zA MO_doors 0 2 0 12 → zA MO_nearSide 0 12 0 255 → zA MO_other 0 24 0 7 → va_P D classes [(MO, .inr (12, oX12 aMO MO_taped MO_size MO_faultKind MO_faultPlace MO_at MO_end MO_token MO_number MO_name MO_bank MO_rb MO_codes MO_within MO_piled MO_unitsInRule MO_askThing MO_acts MO_undone MO_laid MO_heards MO_time)), ((aMO 11), .inl (cI, 2, .inl MO_rooms)), ((aMO 54), .inl (cI, 256, .inl g2_aMO54)), ((aMO 55), .inl (cI, 256, .inl g2_aMO55)), ((aMO 12), .inl (cI, 2, .inl MO_doors)), ((aMO 44), .inl (cI, 12, .inl MO_nearSide)), ((aMO 18), .inl (cI, 24, .inl MO_other))] H → va_D A [(MO, .inr (12, oX12 aMO MO_taped MO_size MO_faultKind MO_faultPlace MO_at MO_end MO_token MO_number MO_name MO_bank MO_rb MO_codes MO_within MO_piled MO_unitsInRule MO_askThing MO_acts MO_undone MO_laid MO_heards MO_time)), ((aMO 11), .inl (cI, 2, .inl MO_rooms)), ((aMO 54), .inl (cI, 256, .inl g2_aMO54)), ((aMO 55), .inl (cI, 256, .inl g2_aMO55)), ((aMO 12), .inl (cI, 2, .inl MO_doors)), ((aMO 44), .inl (cI, 12, .inl MO_nearSide)), ((aMO 18), .inl (cI, 24, .inl MO_other))] → va_S A s.heap H locs → lv_has ls 5 [(1, .int v2_1), (0, .ref MO)] → W p l e ({ frames := 2, cells := 0, slots := 0, locals := 42 } : Room) s m ([.ref MO] : List Value).toArray below meth c H locs 0 0 Q (F0 m 32 ls [.int u32_0, .int v2_1, .ref (aMO 54)]) := by
          intro H locs ls u32_0 bu32_0_k32 sMO_rooms_0_k32 sMO_doors_0_k32 sMO_nearSide_0_k32 sMO_other_0_k32 hP hD hS hl
          refine zi_iast hx hb hK hP hD hS 2 0 rfl rfl (zB_in bx9f_v2_1 (by decide) (by decide)) dX12_layHunts_32 (fun H locs g32 eg32 hP hD hS => ?_)
          replace hP : va_P D classes [(MO, .inr (12, oX12 aMO MO_taped MO_size MO_faultKind MO_faultPlace MO_at MO_end MO_token MO_number MO_name MO_bank MO_rb MO_codes MO_within MO_piled MO_unitsInRule MO_askThing MO_acts MO_undone MO_laid MO_heards MO_time)), ((aMO 11), .inl (cI, 2, .inl MO_rooms)), ((aMO 54), .inl (cI, 256, .inl g32)), ((aMO 55), .inl (cI, 256, .inl g2_aMO55)), ((aMO 12), .inl (cI, 2, .inl MO_doors)), ((aMO 44), .inl (cI, 12, .inl MO_nearSide)), ((aMO 18), .inl (cI, 24, .inl MO_other))] H := hP
          replace hD : va_D A [(MO, .inr (12, oX12 aMO MO_taped MO_size MO_faultKind MO_faultPlace MO_at MO_end MO_token MO_number MO_name MO_bank MO_rb MO_codes MO_within MO_piled MO_unitsInRule MO_askThing MO_acts MO_undone MO_laid MO_heards MO_time)), ((aMO 11), .inl (cI, 2, .inl MO_rooms)), ((aMO 54), .inl (cI, 256, .inl g32)), ((aMO 55), .inl (cI, 256, .inl g2_aMO55)), ((aMO 12), .inl (cI, 2, .inl MO_doors)), ((aMO 44), .inl (cI, 12, .inl MO_nearSide)), ((aMO 18), .inl (cI, 24, .inl MO_other))] := hD
          clear eg32
          refine lv_aload_n hx hb dX12_layHunts_33 rfl (lv_at hl 1 rfl) ?_
          refine va_get (D := D) (ci := 12) (v := .ref (aMO 55)) (C := RX12) (T := TX12) (N := 71) hx hb hts iw_X12_layHunts_X12 hown hK hP 0 rfl rfl 55 (by decide) (hts (.fieldLink RX12 125 "SoldHouseModel" "firsts" "[I") (List.mem_of_getElem? (i := 2) rfl)) (fun _ h9 => h9) rfl dX12_layHunts_34 ?_
          refine lv_iload_n hx hb dX12_layHunts_37 rfl (lv_at hl 0 rfl) ?_
          refine lv_iconst (v := (-1)) hx hb dX12_layHunts_38 (by decide) ?_
          refine zi_iast hx hb hK hP hD hS 3 0 rfl rfl (zB_in bx9f_v2_1 (by decide) (by decide)) dX12_layHunts_39 (fun H locs g39 eg39 hP hD hS => ?_)
          replace hP : va_P D classes [(MO, .inr (12, oX12 aMO MO_taped MO_size MO_faultKind MO_faultPlace MO_at MO_end MO_token MO_number MO_name MO_bank MO_rb MO_codes MO_within MO_piled MO_unitsInRule MO_askThing MO_acts MO_undone MO_laid MO_heards MO_time)), ((aMO 11), .inl (cI, 2, .inl MO_rooms)), ((aMO 54), .inl (cI, 256, .inl g32)), ((aMO 55), .inl (cI, 256, .inl g39)), ((aMO 12), .inl (cI, 2, .inl MO_doors)), ((aMO 44), .inl (cI, 12, .inl MO_nearSide)), ((aMO 18), .inl (cI, 24, .inl MO_other))] H := hP
          replace hD : va_D A [(MO, .inr (12, oX12 aMO MO_taped MO_size MO_faultKind MO_faultPlace MO_at MO_end MO_token MO_number MO_name MO_bank MO_rb MO_codes MO_within MO_piled MO_unitsInRule MO_askThing MO_acts MO_undone MO_laid MO_heards MO_time)), ((aMO 11), .inl (cI, 2, .inl MO_rooms)), ((aMO 54), .inl (cI, 256, .inl g32)), ((aMO 55), .inl (cI, 256, .inl g39)), ((aMO 12), .inl (cI, 2, .inl MO_doors)), ((aMO 44), .inl (cI, 12, .inl MO_nearSide)), ((aMO 18), .inl (cI, 24, .inl MO_other))] := hD
          clear eg39
          refine lv_iconst (v := 0) hx hb dX12_layHunts_40 (by decide) ?_
          have j42 : ∀ (n42 : Nat) (H : Heap) (locs : List Loc) (ls : Array Slot) (v42_2 : Int32) (g42_aMO54 : Nat → Int32) (g42_aMO55 : Nat → Int32), zB v42_2 0 12 → zA MO_rooms 0 2 0 8 → zA MO_doors 0 2 0 12 → zA MO_nearSide 0 12 0 255 → zA MO_other 0 24 0 7 → (12 + 1 - v42_2.toInt) ≤ (n42 : Int) → va_P D classes [(MO, .inr (12, oX12 aMO MO_taped MO_size MO_faultKind MO_faultPlace MO_at MO_end MO_token MO_number MO_name MO_bank MO_rb MO_codes MO_within MO_piled MO_unitsInRule MO_askThing MO_acts MO_undone MO_laid MO_heards MO_time)), ((aMO 11), .inl (cI, 2, .inl MO_rooms)), ((aMO 54), .inl (cI, 256, .inl g42_aMO54)), ((aMO 55), .inl (cI, 256, .inl g42_aMO55)), ((aMO 12), .inl (cI, 2, .inl MO_doors)), ((aMO 44), .inl (cI, 12, .inl MO_nearSide)), ((aMO 18), .inl (cI, 24, .inl MO_other))] H → va_D A [(MO, .inr (12, oX12 aMO MO_taped MO_size MO_faultKind MO_faultPlace MO_at MO_end MO_token MO_number MO_name MO_bank MO_rb MO_codes MO_within MO_piled MO_unitsInRule MO_askThing MO_acts MO_undone MO_laid MO_heards MO_time)), ((aMO 11), .inl (cI, 2, .inl MO_rooms)), ((aMO 54), .inl (cI, 256, .inl g42_aMO54)), ((aMO 55), .inl (cI, 256, .inl g42_aMO55)), ((aMO 12), .inl (cI, 2, .inl MO_doors)), ((aMO 44), .inl (cI, 12, .inl MO_nearSide)), ((aMO 18), .inl (cI, 24, .inl MO_other))] → va_S A s.heap H locs → lv_has ls 5 [(2, .int v42_2), (1, .int v2_1), (0, .ref MO)] → W p l e ({ frames := 2, cells := 0, slots := 0, locals := 42 } : Room) s m ([.ref MO] : List Value).toArray below meth c H locs 0 0 Q (F0 m 42 ls []) := by
            intro n42
            induction n42 with
            | zero => intro H locs ls v42_2 g42_aMO54 g42_aMO55 bv42_2_k42 sMO_rooms_0_k42 sMO_doors_0_k42 sMO_nearSide_0_k42 sMO_other_0_k42 hm42 hP hD hS hl; exact zM_u0 bv42_2_k42 hm42
            | succ n42 ih42 =>
              intro H locs ls v42_2 g42_aMO54 g42_aMO55 bv42_2_k42 sMO_rooms_0_k42 sMO_doors_0_k42 sMO_nearSide_0_k42 sMO_other_0_k42 hm42 hP hD hS hl
              refine lv_iload_n hx hb dX12_layHunts_42 rfl (lv_at hl 0 rfl) ?_
              refine lv_aload_n hx hb dX12_layHunts_43 rfl (lv_at hl 2 rfl) ?_
              refine va_get (D := D) (ci := 12) (v := .ref (aMO 12)) (C := RX12) (T := TX12) (N := 71) hx hb hts iw_X12_layHunts_X12 hown hK hP 0 rfl rfl 12 (by decide) (hts (.fieldLink RX12 24 "SoldHouseModel" "doors" "[I") (List.mem_of_getElem? (i := 3) rfl)) (fun _ h9 => h9) rfl dX12_layHunts_44 ?_
              refine lv_aload_n hx hb dX12_layHunts_47 rfl (lv_at hl 2 rfl) ?_
              refine va_get (D := D) (ci := 12) (v := .int MO_bank) (C := RX12) (T := TX12) (N := 71) hx hb hts iw_X12_layHunts_X12 hown hK hP 0 rfl rfl 35 (by decide) (hts (.fieldLink RX12 280 "SoldHouseModel" "bank" "I") (List.mem_of_getElem? (i := 4) rfl)) (fun _ h9 => h9) rfl dX12_layHunts_48 ?_
              refine va_iald hx hb hK hP 4 0 rfl rfl (zB_in b_MO_bank (by decide) (by decide)) dX12_layHunts_51 ?_
              refine zi_top (a := 0) (b := 12) (zA_at sMO_doors_0_k42 b_MO_bank (by decide) (by decide)) (fun y51 by51 => ?_)
              have j171 : ∀ (H : Heap) (locs : List Loc) (ls : Array Slot), zA MO_rooms 0 2 0 8 → zA MO_doors 0 2 0 12 → zA MO_nearSide 0 12 0 255 → zA MO_other 0 24 0 7 → va_P D classes [(MO, .inr (12, oX12 aMO MO_taped MO_size MO_faultKind MO_faultPlace MO_at MO_end MO_token MO_number MO_name MO_bank MO_rb MO_codes MO_within MO_piled MO_unitsInRule MO_askThing MO_acts MO_undone MO_laid MO_heards MO_time)), ((aMO 11), .inl (cI, 2, .inl MO_rooms)), ((aMO 54), .inl (cI, 256, .inl g42_aMO54)), ((aMO 55), .inl (cI, 256, .inl g42_aMO55)), ((aMO 12), .inl (cI, 2, .inl MO_doors)), ((aMO 44), .inl (cI, 12, .inl MO_nearSide)), ((aMO 18), .inl (cI, 24, .inl MO_other))] H → va_D A [(MO, .inr (12, oX12 aMO MO_taped MO_size MO_faultKind MO_faultPlace MO_at MO_end MO_token MO_number MO_name MO_bank MO_rb MO_codes MO_within MO_piled MO_unitsInRule MO_askThing MO_acts MO_undone MO_laid MO_heards MO_time)), ((aMO 11), .inl (cI, 2, .inl MO_rooms)), ((aMO 54), .inl (cI, 256, .inl g42_aMO54)), ((aMO 55), .inl (cI, 256, .inl g42_aMO55)), ((aMO 12), .inl (cI, 2, .inl MO_doors)), ((aMO 44), .inl (cI, 12, .inl MO_nearSide)), ((aMO 18), .inl (cI, 24, .inl MO_other))] → va_S A s.heap H locs → lv_has ls 5 [(2, .int v42_2), (1, .int v2_1), (0, .ref MO)] → W p l e ({ frames := 2, cells := 0, slots := 0, locals := 42 } : Room) s m ([.ref MO] : List Value).toArray below meth c H locs 0 0 Q (F0 m 171 ls []) := by
                intro H locs ls sMO_rooms_0_k171 sMO_doors_0_k171 sMO_nearSide_0_k171 sMO_other_0_k171 hP hD hS hl
                obtain ⟨y171, by171, ry171, ey171⟩ := zi_inc (x := v2_1) (k := 1) (a := 2) (b := 256) bx9f_v2_1 (by decide) (by decide) (by decide) (by decide) (by decide)
                refine lv_iinc (v := y171) (lv' := [(1, .int y171), (2, .int v42_2), (0, .ref MO)]) hx hb dX12_layHunts_171 hl (k := 1) rfl ey171 (by decide) rfl (fun ls hl => ?_)
                refine lv_goto (tgt := 2) hx hb dX12_layHunts_174 (by decide) ?_
                exact ih2 H locs ls y171 g42_aMO54 g42_aMO55 (zB_w by171 (by decide) (by decide)) sMO_rooms_0_k171 sMO_doors_0_k171 sMO_nearSide_0_k171 sMO_other_0_k171 (zM_us (k := 1) hm2 ry171 (by decide)) hP hD hS (lv_sub hl [0, 2] rfl)
              refine lv_icmp_ge (tgt := 171) hx hb dX12_layHunts_52 (by decide) (fun c52 => ?_) (fun c52 => ?_)
              · exact j171 H locs ls sMO_rooms_0_k42 sMO_doors_0_k42 sMO_nearSide_0_k42 sMO_other_0_k42 hP hD hS (lv_sub hl [0, 1, 2] rfl)
              · have bx52f_v42_2 : zB v42_2 0 11 := zB_ltu (zf c52) bv42_2_k42 by51 (by decide)
                have by52f_y51 : zB y51 1 12 := zB_ltv (zf c52) bx52f_v42_2 by51 (by decide)
                refine lv_iload_n hx hb dX12_layHunts_55 rfl (lv_at hl 1 rfl) ?_
                have hPc := hP.sub (ws' := []) [] rfl
                refine vp_callSi (va_runS (As := [.int v2_1]) (rest := []) ⟨hx, hb, hml, hown, hts⟩ (c_X12_bitsOf l D cI cB cL cZ cG v2_1 (zB_w bx9f_v2_1 (by decide) (by decide))) (va_cwS 1 hts gX12_layHunts_X12_bitsOf rfl rfl rfl (by decide +kernel) ⟨Nat.le_of_ble_eq_true rfl, Nat.le_of_ble_eq_true rfl⟩) ⟨xr_blind, fun U hU hW => xr_mk hU hW hPc hK⟩ rfl rfl hl.1 rfl (lv_room (Nat.le_of_ble_eq_true rfl)) dX12_layHunts_56 ⟨Nat.le_of_ble_eq_true rfl, Nat.le_of_ble_eq_true rfl⟩).run (fun r56 hr56 => ?_)
                clear hPc
                clear hr56
                refine lv_iconst (v := 1) hx hb dX12_layHunts_59 (by decide) ?_
                refine lv_icmp_le (tgt := 171) hx hb dX12_layHunts_60 (by decide) (fun c60 => ?_) (fun c60 => ?_)
                · have bx60t_r56 : zB r56 (-2147483648) 1 := zB_leu (ze c60) (zB_top r56) (show zB 1 1 1 from ⟨by decide, by decide⟩) (by decide)
                  exact j171 H locs ls sMO_rooms_0_k42 sMO_doors_0_k42 sMO_nearSide_0_k42 sMO_other_0_k42 hP hD hS (lv_sub hl [0, 1, 2] rfl)
                · have by60f_r56 : zB r56 2 2147483647 := zB_ltv (zf c60) (show zB 1 1 1 from ⟨by decide, by decide⟩) (zB_top r56) (by decide)
                  refine lv_iload_n hx hb dX12_layHunts_63 rfl (lv_at hl 1 rfl) ?_
                  refine lv_aload_n hx hb dX12_layHunts_64 rfl (lv_at hl 2 rfl) ?_
                  refine va_get (D := D) (ci := 12) (v := .ref (aMO 44)) (C := RX12) (T := TX12) (N := 71) hx hb hts iw_X12_layHunts_X12 hown hK hP 0 rfl rfl 44 (by decide) (hts (.fieldLink RX12 101 "SoldHouseModel" "nearSide" "[I") (List.mem_of_getElem? (i := 5) rfl)) (fun _ h9 => h9) rfl dX12_layHunts_65 ?_
                  refine lv_iload_n hx hb dX12_layHunts_68 rfl (lv_at hl 0 rfl) ?_
                  refine va_iald hx hb hK hP 5 0 rfl rfl (zB_in bx52f_v42_2 (by decide) (by decide)) dX12_layHunts_69 ?_
                  refine zi_top (a := 0) (b := 255) (zA_at sMO_nearSide_0_k42 bx52f_v42_2 (by decide) (by decide)) (fun y69 by69 => ?_)
                  refine lv_iand hx hb dX12_layHunts_70 ?_
                  refine zi_top (a := 0) (b := 255) (zB_andl bx9f_v2_1 (by decide)) (fun y70 by70 => ?_)
                  refine lv_istore_n (lv' := [(3, .int y70), (2, .int v42_2), (1, .int v2_1), (0, .ref MO)]) hx hb dX12_layHunts_71 rfl hl (by decide) rfl (fun ls hl => ?_)
                  refine lv_aload_n hx hb dX12_layHunts_72 rfl (lv_at hl 3 rfl) ?_
                  refine lv_iload_n hx hb dX12_layHunts_73 rfl (lv_at hl 1 rfl) ?_
                  have hPc := hP.sub (ws' := [(MO, .inr (12, oX12 aMO MO_taped MO_size MO_faultKind MO_faultPlace MO_at MO_end MO_token MO_number MO_name MO_bank MO_rb MO_codes MO_within MO_piled MO_unitsInRule MO_askThing MO_acts MO_undone MO_laid MO_heards MO_time)), ((aMO 44), .inl (cI, 12, .inl MO_nearSide)), ((aMO 18), .inl (cI, 24, .inl MO_other))]) [0, 5, 6] rfl
                  refine vp_callSi (va_runV (As := [.int v42_2]) (rest := []) ⟨hx, hb, hml, hown, hts⟩ (c_X12_doesPart l D cI cB cL cZ cG MO v42_2 aMO MO_taped MO_size MO_faultKind MO_faultPlace MO_at MO_end MO_token MO_number MO_name MO_bank MO_rb MO_codes MO_within MO_piled MO_unitsInRule MO_askThing MO_acts MO_undone MO_laid MO_heards MO_time MO_nearSide MO_other bx52f_v42_2 b_MO_taped b_MO_size b_MO_faultKind b_MO_at b_MO_end b_MO_token b_MO_bank b_MO_rb b_MO_codes b_MO_within b_MO_piled b_MO_unitsInRule b_MO_askThing b_MO_acts b_MO_undone b_MO_laid b_MO_heards b_MO_time sMO_nearSide_0_k42 sMO_other_0_k42) (cwV 1 hts gX12_layHunts_X12_doesPart rfl rfl rfl (by decide +kernel) ⟨Nat.le_of_ble_eq_true rfl, Nat.le_of_ble_eq_true rfl⟩) ⟨xr_blind, va_recv hK hP (ci := 12) (q0 := 0) rfl rfl, fun U hU hW => xr_mk hU hW hPc hK⟩ rfl rfl hl.1 rfl (lv_room (Nat.le_of_ble_eq_true rfl)) dX12_layHunts_74 ⟨Nat.le_of_ble_eq_true rfl, Nat.le_of_ble_eq_true rfl⟩).run (fun r74 hr74 => ?_)
                  clear hPc
                  have j165 : ∀ (H : Heap) (locs : List Loc) (ls : Array Slot) (g165_aMO54 : Nat → Int32) (g165_aMO55 : Nat → Int32), zA MO_rooms 0 2 0 8 → zA MO_doors 0 2 0 12 → zA MO_nearSide 0 12 0 255 → zA MO_other 0 24 0 7 → va_P D classes [(MO, .inr (12, oX12 aMO MO_taped MO_size MO_faultKind MO_faultPlace MO_at MO_end MO_token MO_number MO_name MO_bank MO_rb MO_codes MO_within MO_piled MO_unitsInRule MO_askThing MO_acts MO_undone MO_laid MO_heards MO_time)), ((aMO 11), .inl (cI, 2, .inl MO_rooms)), ((aMO 54), .inl (cI, 256, .inl g165_aMO54)), ((aMO 55), .inl (cI, 256, .inl g165_aMO55)), ((aMO 12), .inl (cI, 2, .inl MO_doors)), ((aMO 44), .inl (cI, 12, .inl MO_nearSide)), ((aMO 18), .inl (cI, 24, .inl MO_other))] H → va_D A [(MO, .inr (12, oX12 aMO MO_taped MO_size MO_faultKind MO_faultPlace MO_at MO_end MO_token MO_number MO_name MO_bank MO_rb MO_codes MO_within MO_piled MO_unitsInRule MO_askThing MO_acts MO_undone MO_laid MO_heards MO_time)), ((aMO 11), .inl (cI, 2, .inl MO_rooms)), ((aMO 54), .inl (cI, 256, .inl g165_aMO54)), ((aMO 55), .inl (cI, 256, .inl g165_aMO55)), ((aMO 12), .inl (cI, 2, .inl MO_doors)), ((aMO 44), .inl (cI, 12, .inl MO_nearSide)), ((aMO 18), .inl (cI, 24, .inl MO_other))] → va_S A s.heap H locs → lv_has ls 5 [(3, .int y70), (2, .int v42_2), (1, .int v2_1), (0, .ref MO)] → W p l e ({ frames := 2, cells := 0, slots := 0, locals := 42 } : Room) s m ([.ref MO] : List Value).toArray below meth c H locs 0 0 Q (F0 m 165 ls []) := by
                    intro H locs ls g165_aMO54 g165_aMO55 sMO_rooms_0_k165 sMO_doors_0_k165 sMO_nearSide_0_k165 sMO_other_0_k165 hP hD hS hl
                    obtain ⟨y165, by165, ry165, ey165⟩ := zi_inc (x := v42_2) (k := 1) (a := 1) (b := 12) bx52f_v42_2 (by decide) (by decide) (by decide) (by decide) (by decide)
                    refine lv_iinc (v := y165) (lv' := [(2, .int y165), (3, .int y70), (1, .int v2_1), (0, .ref MO)]) hx hb dX12_layHunts_165 hl (k := 1) rfl ey165 (by decide) rfl (fun ls hl => ?_)
                    refine lv_goto (tgt := 42) hx hb dX12_layHunts_168 (by decide) ?_
                    exact ih42 H locs ls y165 g165_aMO54 g165_aMO55 (zB_w by165 (by decide) (by decide)) sMO_rooms_0_k165 sMO_doors_0_k165 sMO_nearSide_0_k165 sMO_other_0_k165 (zM_us (k := 1) hm42 ry165 (by decide)) hP hD hS (lv_sub hl [0, 2, 3] rfl)
                  refine lv_if_eq (tgt := 165) hx hb dX12_layHunts_77 (by decide) (fun c77 => ?_) (fun c77 => ?_)
                  · have be77t_r74 : zB r74 0 0 := zB_eq c77 hr74 (show zB 0 0 0 from ⟨by decide, by decide⟩) (by decide) (by decide)
                    exact j165 H locs ls g42_aMO54 g42_aMO55 sMO_rooms_0_k42 sMO_doors_0_k42 sMO_nearSide_0_k42 sMO_other_0_k42 hP hD hS (lv_sub hl [0, 1, 2, 3] rfl)
                  · have bn77f_r74 : zB r74 1 1 := zB_neL c77 hr74 (show zB 0 0 0 from ⟨by decide, by decide⟩) (by decide)
                    refine lv_iload_n hx hb dX12_layHunts_80 rfl (lv_at hl 0 rfl) ?_
                    refine lv_if_eq (tgt := 165) hx hb dX12_layHunts_81 (by decide) (fun c81 => ?_) (fun c81 => ?_)
                    · have be81t_y70 : zB y70 0 0 := zB_eq c81 by70 (show zB 0 0 0 from ⟨by decide, by decide⟩) (by decide) (by decide)
                      exact j165 H locs ls g42_aMO54 g42_aMO55 sMO_rooms_0_k42 sMO_doors_0_k42 sMO_nearSide_0_k42 sMO_other_0_k42 hP hD hS (lv_sub hl [0, 1, 2, 3] rfl)
                    · have bn81f_y70 : zB y70 1 255 := zB_neL c81 by70 (show zB 0 0 0 from ⟨by decide, by decide⟩) (by decide)
                      refine lv_iload_n hx hb dX12_layHunts_84 rfl (lv_at hl 0 rfl) ?_
                      refine lv_iload_n hx hb dX12_layHunts_85 rfl (lv_at hl 2 rfl) ?_
                      refine lv_icmp_ne (tgt := 92) hx hb dX12_layHunts_86 (by decide) (fun c86 => ?_) (fun c86 => ?_)
                      · refine lv_aload_n hx hb dX12_layHunts_92 rfl (lv_at hl 3 rfl) ?_
                        refine va_get (D := D) (ci := 12) (v := .ref (aMO 54)) (C := RX12) (T := TX12) (N := 71) hx hb hts iw_X12_layHunts_X12 hown hK hP 0 rfl rfl 54 (by decide) (hts (.fieldLink RX12 122 "SoldHouseModel" "hunts" "[I") (List.mem_of_getElem? (i := 1) rfl)) (fun _ h9 => h9) rfl dX12_layHunts_93 ?_
                        refine lv_iload_n hx hb dX12_layHunts_96 rfl (lv_at hl 0 rfl) ?_
                        refine va_iald hx hb hK hP 2 0 rfl rfl (zB_in bn81f_y70 (by decide) (by decide)) dX12_layHunts_97 ?_
                        refine lv_topi (fun y97 _ => ?_)
                        refine lv_aload_n hx hb dX12_layHunts_98 rfl (lv_at hl 3 rfl) ?_
                        refine va_get (D := D) (ci := 12) (v := .ref (aMO 54)) (C := RX12) (T := TX12) (N := 71) hx hb hts iw_X12_layHunts_X12 hown hK hP 0 rfl rfl 54 (by decide) (hts (.fieldLink RX12 122 "SoldHouseModel" "hunts" "[I") (List.mem_of_getElem? (i := 1) rfl)) (fun _ h9 => h9) rfl dX12_layHunts_99 ?_
                        refine lv_iload_n hx hb dX12_layHunts_102 rfl (lv_at hl 2 rfl) ?_
                        refine lv_iload_n hx hb dX12_layHunts_103 rfl (lv_at hl 0 rfl) ?_
                        refine lv_iconst (v := (-1)) hx hb dX12_layHunts_104 (by decide) ?_
                        refine lv_ixor hx hb dX12_layHunts_105 ?_
                        refine zi_top (a := (-256)) (b := (-2)) (zB_not bn81f_y70 (by decide) (by decide)) (fun y105 by105 => ?_)
                        refine lv_iand hx hb dX12_layHunts_106 ?_
                        refine zi_top (a := 0) (b := 255) (zB_andl bx9f_v2_1 (by decide)) (fun y106 by106 => ?_)
                        refine va_iald hx hb hK hP 2 0 rfl rfl (zB_in by106 (by decide) (by decide)) dX12_layHunts_107 ?_
                        refine lv_topi (fun y107 _ => ?_)
                        have j130 : ∀ (H : Heap) (locs : List Loc) (ls : Array Slot) (u130_0 : Int32), zA MO_rooms 0 2 0 8 → zA MO_doors 0 2 0 12 → zA MO_nearSide 0 12 0 255 → zA MO_other 0 24 0 7 → va_P D classes [(MO, .inr (12, oX12 aMO MO_taped MO_size MO_faultKind MO_faultPlace MO_at MO_end MO_token MO_number MO_name MO_bank MO_rb MO_codes MO_within MO_piled MO_unitsInRule MO_askThing MO_acts MO_undone MO_laid MO_heards MO_time)), ((aMO 11), .inl (cI, 2, .inl MO_rooms)), ((aMO 54), .inl (cI, 256, .inl g42_aMO54)), ((aMO 55), .inl (cI, 256, .inl g42_aMO55)), ((aMO 12), .inl (cI, 2, .inl MO_doors)), ((aMO 44), .inl (cI, 12, .inl MO_nearSide)), ((aMO 18), .inl (cI, 24, .inl MO_other))] H → va_D A [(MO, .inr (12, oX12 aMO MO_taped MO_size MO_faultKind MO_faultPlace MO_at MO_end MO_token MO_number MO_name MO_bank MO_rb MO_codes MO_within MO_piled MO_unitsInRule MO_askThing MO_acts MO_undone MO_laid MO_heards MO_time)), ((aMO 11), .inl (cI, 2, .inl MO_rooms)), ((aMO 54), .inl (cI, 256, .inl g42_aMO54)), ((aMO 55), .inl (cI, 256, .inl g42_aMO55)), ((aMO 12), .inl (cI, 2, .inl MO_doors)), ((aMO 44), .inl (cI, 12, .inl MO_nearSide)), ((aMO 18), .inl (cI, 24, .inl MO_other))] → va_S A s.heap H locs → lv_has ls 5 [(3, .int y70), (2, .int v42_2), (1, .int v2_1), (0, .ref MO)] → W p l e ({ frames := 2, cells := 0, slots := 0, locals := 42 } : Room) s m ([.ref MO] : List Value).toArray below meth c H locs 0 0 Q (F0 m 130 ls [.int u130_0]) := by
                          intro H locs ls u130_0 sMO_rooms_0_k130 sMO_doors_0_k130 sMO_nearSide_0_k130 sMO_other_0_k130 hP hD hS hl
                          refine lv_istore (lv' := [(4, .int u130_0), (3, .int y70), (2, .int v42_2), (1, .int v2_1), (0, .ref MO)]) hx hb dX12_layHunts_130 hl (by decide) rfl (fun ls hl => ?_)
                          refine lv_iload hx hb dX12_layHunts_132 (lv_at hl 0 rfl) ?_
                          refine lv_iconst (v := 1) hx hb dX12_layHunts_134 (by decide) ?_
                          refine lv_iadd hx hb dX12_layHunts_135 ?_
                          refine lv_topi (fun y135 _ => ?_)
                          refine lv_aload_n hx hb dX12_layHunts_136 rfl (lv_at hl 4 rfl) ?_
                          refine va_get (D := D) (ci := 12) (v := .ref (aMO 54)) (C := RX12) (T := TX12) (N := 71) hx hb hts iw_X12_layHunts_X12 hown hK hP 0 rfl rfl 54 (by decide) (hts (.fieldLink RX12 122 "SoldHouseModel" "hunts" "[I") (List.mem_of_getElem? (i := 1) rfl)) (fun _ h9 => h9) rfl dX12_layHunts_137 ?_
                          refine lv_iload_n hx hb dX12_layHunts_140 rfl (lv_at hl 3 rfl) ?_
                          refine va_iald hx hb hK hP 2 0 rfl rfl (zB_in bx9f_v2_1 (by decide) (by decide)) dX12_layHunts_141 ?_
                          refine lv_topi (fun y141 _ => ?_)
                          refine lv_icmp_lt (tgt := 148) hx hb dX12_layHunts_142 (by decide) (fun c142 => ?_) (fun c142 => ?_)
                          · have bx142t_y135 : zB y135 (-2147483648) 2147483646 := zB_ltu (zl c142) (zB_top y135) (zB_top y141) (by decide)
                            have by142t_y141 : zB y141 (-2147483647) 2147483647 := zB_ltv (zl c142) bx142t_y135 (zB_top y141) (by decide)
                            refine lv_aload_n hx hb dX12_layHunts_148 rfl (lv_at hl 4 rfl) ?_
                            refine va_get (D := D) (ci := 12) (v := .ref (aMO 54)) (C := RX12) (T := TX12) (N := 71) hx hb hts iw_X12_layHunts_X12 hown hK hP 0 rfl rfl 54 (by decide) (hts (.fieldLink RX12 122 "SoldHouseModel" "hunts" "[I") (List.mem_of_getElem? (i := 1) rfl)) (fun _ h9 => h9) rfl dX12_layHunts_149 ?_
                            refine lv_iload_n hx hb dX12_layHunts_152 rfl (lv_at hl 3 rfl) ?_
                            refine lv_iload hx hb dX12_layHunts_153 (lv_at hl 0 rfl) ?_
                            refine lv_iconst (v := 1) hx hb dX12_layHunts_155 (by decide) ?_
                            refine lv_iadd hx hb dX12_layHunts_156 ?_
                            refine lv_topi (fun y156 _ => ?_)
                            refine zi_iast hx hb hK hP hD hS 2 0 rfl rfl (zB_in bx9f_v2_1 (by decide) (by decide)) dX12_layHunts_157 (fun H locs g157 eg157 hP hD hS => ?_)
                            replace hP : va_P D classes [(MO, .inr (12, oX12 aMO MO_taped MO_size MO_faultKind MO_faultPlace MO_at MO_end MO_token MO_number MO_name MO_bank MO_rb MO_codes MO_within MO_piled MO_unitsInRule MO_askThing MO_acts MO_undone MO_laid MO_heards MO_time)), ((aMO 11), .inl (cI, 2, .inl MO_rooms)), ((aMO 54), .inl (cI, 256, .inl g157)), ((aMO 55), .inl (cI, 256, .inl g42_aMO55)), ((aMO 12), .inl (cI, 2, .inl MO_doors)), ((aMO 44), .inl (cI, 12, .inl MO_nearSide)), ((aMO 18), .inl (cI, 24, .inl MO_other))] H := hP
                            replace hD : va_D A [(MO, .inr (12, oX12 aMO MO_taped MO_size MO_faultKind MO_faultPlace MO_at MO_end MO_token MO_number MO_name MO_bank MO_rb MO_codes MO_within MO_piled MO_unitsInRule MO_askThing MO_acts MO_undone MO_laid MO_heards MO_time)), ((aMO 11), .inl (cI, 2, .inl MO_rooms)), ((aMO 54), .inl (cI, 256, .inl g157)), ((aMO 55), .inl (cI, 256, .inl g42_aMO55)), ((aMO 12), .inl (cI, 2, .inl MO_doors)), ((aMO 44), .inl (cI, 12, .inl MO_nearSide)), ((aMO 18), .inl (cI, 24, .inl MO_other))] := hD
                            clear eg157
                            refine lv_aload_n hx hb dX12_layHunts_158 rfl (lv_at hl 4 rfl) ?_
                            refine va_get (D := D) (ci := 12) (v := .ref (aMO 55)) (C := RX12) (T := TX12) (N := 71) hx hb hts iw_X12_layHunts_X12 hown hK hP 0 rfl rfl 55 (by decide) (hts (.fieldLink RX12 125 "SoldHouseModel" "firsts" "[I") (List.mem_of_getElem? (i := 2) rfl)) (fun _ h9 => h9) rfl dX12_layHunts_159 ?_
                            refine lv_iload_n hx hb dX12_layHunts_162 rfl (lv_at hl 3 rfl) ?_
                            refine lv_iload_n hx hb dX12_layHunts_163 rfl (lv_at hl 2 rfl) ?_
                            refine zi_iast hx hb hK hP hD hS 3 0 rfl rfl (zB_in bx9f_v2_1 (by decide) (by decide)) dX12_layHunts_164 (fun H locs g164 eg164 hP hD hS => ?_)
                            replace hP : va_P D classes [(MO, .inr (12, oX12 aMO MO_taped MO_size MO_faultKind MO_faultPlace MO_at MO_end MO_token MO_number MO_name MO_bank MO_rb MO_codes MO_within MO_piled MO_unitsInRule MO_askThing MO_acts MO_undone MO_laid MO_heards MO_time)), ((aMO 11), .inl (cI, 2, .inl MO_rooms)), ((aMO 54), .inl (cI, 256, .inl g157)), ((aMO 55), .inl (cI, 256, .inl g164)), ((aMO 12), .inl (cI, 2, .inl MO_doors)), ((aMO 44), .inl (cI, 12, .inl MO_nearSide)), ((aMO 18), .inl (cI, 24, .inl MO_other))] H := hP
                            replace hD : va_D A [(MO, .inr (12, oX12 aMO MO_taped MO_size MO_faultKind MO_faultPlace MO_at MO_end MO_token MO_number MO_name MO_bank MO_rb MO_codes MO_within MO_piled MO_unitsInRule MO_askThing MO_acts MO_undone MO_laid MO_heards MO_time)), ((aMO 11), .inl (cI, 2, .inl MO_rooms)), ((aMO 54), .inl (cI, 256, .inl g157)), ((aMO 55), .inl (cI, 256, .inl g164)), ((aMO 12), .inl (cI, 2, .inl MO_doors)), ((aMO 44), .inl (cI, 12, .inl MO_nearSide)), ((aMO 18), .inl (cI, 24, .inl MO_other))] := hD
                            clear eg164
                            exact j165 H locs ls g157 g164 sMO_rooms_0_k130 sMO_doors_0_k130 sMO_nearSide_0_k130 sMO_other_0_k130 hP hD hS (lv_sub hl [1, 2, 3, 4] rfl)
                          · refine lv_goto (tgt := 165) hx hb dX12_layHunts_145 (by decide) ?_
                            exact j165 H locs ls g42_aMO54 g42_aMO55 sMO_rooms_0_k130 sMO_doors_0_k130 sMO_nearSide_0_k130 sMO_other_0_k130 hP hD hS (lv_sub hl [1, 2, 3, 4] rfl)
                        refine lv_icmp_le (tgt := 120) hx hb dX12_layHunts_108 (by decide) (fun c108 => ?_) (fun c108 => ?_)
                        · refine lv_aload_n hx hb dX12_layHunts_120 rfl (lv_at hl 3 rfl) ?_
                          refine va_get (D := D) (ci := 12) (v := .ref (aMO 54)) (C := RX12) (T := TX12) (N := 71) hx hb hts iw_X12_layHunts_X12 hown hK hP 0 rfl rfl 54 (by decide) (hts (.fieldLink RX12 122 "SoldHouseModel" "hunts" "[I") (List.mem_of_getElem? (i := 1) rfl)) (fun _ h9 => h9) rfl dX12_layHunts_121 ?_
                          refine lv_iload_n hx hb dX12_layHunts_124 rfl (lv_at hl 2 rfl) ?_
                          refine lv_iload_n hx hb dX12_layHunts_125 rfl (lv_at hl 0 rfl) ?_
                          refine lv_iconst (v := (-1)) hx hb dX12_layHunts_126 (by decide) ?_
                          refine lv_ixor hx hb dX12_layHunts_127 ?_
                          refine zi_top (a := (-256)) (b := (-2)) (zB_not bn81f_y70 (by decide) (by decide)) (fun y127 by127 => ?_)
                          refine lv_iand hx hb dX12_layHunts_128 ?_
                          refine zi_top (a := 0) (b := 255) (zB_andl bx9f_v2_1 (by decide)) (fun y128 by128 => ?_)
                          refine va_iald hx hb hK hP 2 0 rfl rfl (zB_in by128 (by decide) (by decide)) dX12_layHunts_129 ?_
                          refine lv_topi (fun y129 _ => ?_)
                          exact j130 H locs ls y129 sMO_rooms_0_k42 sMO_doors_0_k42 sMO_nearSide_0_k42 sMO_other_0_k42 hP hD hS (lv_sub hl [0, 1, 2, 3] rfl)
                        · have bx108f_y107 : zB y107 (-2147483648) 2147483646 := zB_ltu (zf c108) (zB_top y107) (zB_top y97) (by decide)
                          have by108f_y97 : zB y97 (-2147483647) 2147483647 := zB_ltv (zf c108) bx108f_y107 (zB_top y97) (by decide)
                          refine lv_aload_n hx hb dX12_layHunts_111 rfl (lv_at hl 3 rfl) ?_
                          refine va_get (D := D) (ci := 12) (v := .ref (aMO 54)) (C := RX12) (T := TX12) (N := 71) hx hb hts iw_X12_layHunts_X12 hown hK hP 0 rfl rfl 54 (by decide) (hts (.fieldLink RX12 122 "SoldHouseModel" "hunts" "[I") (List.mem_of_getElem? (i := 1) rfl)) (fun _ h9 => h9) rfl dX12_layHunts_112 ?_
                          refine lv_iload_n hx hb dX12_layHunts_115 rfl (lv_at hl 0 rfl) ?_
                          refine va_iald hx hb hK hP 2 0 rfl rfl (zB_in bn81f_y70 (by decide) (by decide)) dX12_layHunts_116 ?_
                          refine lv_topi (fun y116 _ => ?_)
                          refine lv_goto (tgt := 130) hx hb dX12_layHunts_117 (by decide) ?_
                          exact j130 H locs ls y116 sMO_rooms_0_k42 sMO_doors_0_k42 sMO_nearSide_0_k42 sMO_other_0_k42 hP hD hS (lv_sub hl [0, 1, 2, 3] rfl)
                      · refine lv_goto (tgt := 165) hx hb dX12_layHunts_89 (by decide) ?_
                        exact j165 H locs ls g42_aMO54 g42_aMO55 sMO_rooms_0_k42 sMO_doors_0_k42 sMO_nearSide_0_k42 sMO_other_0_k42 hP hD hS (lv_sub hl [0, 1, 2, 3] rfl)
          refine lv_istore_n (lv' := [(2, .int 0), (1, .int v2_1), (0, .ref MO)]) hx hb dX12_layHunts_41 rfl hl (by decide) rfl (fun ls hl => ?_)
          exact j42 13 H locs ls 0 g32 g39 (zB_w (show zB 0 0 0 from ⟨by decide, by decide⟩) (by decide) (by decide)) sMO_rooms_0_k32 sMO_doors_0_k32 sMO_nearSide_0_k32 sMO_other_0_k32 (zM_ui (show zB 0 0 0 from ⟨by decide, by decide⟩) (by decide)) hP hD hS (lv_sub hl [0, 1, 2] rfl)
        refine lv_icmp_ne (tgt := 29) hx hb dX12_layHunts_22 (by decide) (fun c22 => ?_) (fun c22 => ?_)
        · refine lv_sipush (v := 10000) hx hb dX12_layHunts_29 (by decide) ?_
          exact j32 H locs ls 10000 (zB_w (show zB 10000 10000 10000 from ⟨by decide, by decide⟩) (by decide) (by decide)) sMO_rooms_0_k2 sMO_doors_0_k2 sMO_nearSide_0_k2 sMO_other_0_k2 hP hD hS (lv_sub hl [0, 1] rfl)
        · have be22f_r18 : zB r18 1 1 := zB_eq c22 (zB_top r18) (show zB 1 1 1 from ⟨by decide, by decide⟩) (by decide) (by decide)
          refine lv_iconst (v := 0) hx hb dX12_layHunts_25 (by decide) ?_
          refine lv_goto (tgt := 32) hx hb dX12_layHunts_26 (by decide) ?_
          exact j32 H locs ls 0 (zB_w (show zB 0 0 0 from ⟨by decide, by decide⟩) (by decide) (by decide)) sMO_rooms_0_k2 sMO_doors_0_k2 sMO_nearSide_0_k2 sMO_other_0_k2 hP hD hS (lv_sub hl [0, 1] rfl)
  refine lv_istore_n (lv' := [(1, .int 1), (0, .ref MO)]) hx hb dX12_layHunts_1 rfl hl (by decide) rfl (fun ls hl => ?_)
  exact j2 256 H locs ls 1 MO_hunts MO_firsts (zB_w (show zB 1 1 1 from ⟨by decide, by decide⟩) (by decide) (by decide)) s_MO_rooms_0 s_MO_doors_0 s_MO_nearSide_0 s_MO_other_0 (zM_ui (show zB 1 1 1 from ⟨by decide, by decide⟩) (by decide)) hP hD hS (lv_sub hl [0, 1] rfl)
set_option maxHeartbeats 4000000 in
set_option maxRecDepth 100000 in
theorem c_X12_hunt (l : Launch) (D : va_G) (cI : ClassId) (cB : ClassId) (cL : ClassId) (cZ : ClassId) (cG : ClassId) (MO : Nat) (x0 : Int32) (aMO : Nat → Nat) (MO_taped : Int32) (MO_size : Int32) (MO_faultKind : Int32) (MO_faultPlace : Int32) (MO_at : Int32) (MO_end : Int32) (MO_token : Int32) (MO_number : Int32) (MO_name : Int64) (MO_bank : Int32) (MO_rb : Int32) (MO_codes : Int32) (MO_within : Int32) (MO_piled : Int32) (MO_unitsInRule : Int32) (MO_askThing : Int32) (MO_acts : Int32) (MO_undone : Int32) (MO_laid : Int32) (MO_heards : Int32) (MO_time : Int32) (MO_rooms : Nat → Int32) (MO_hunts : Nat → Int32) (MO_firsts : Nat → Int32) (MO_doors : Nat → Int32) (MO_nearSide : Nat → Int32) (MO_other : Nat → Int32) (sz : Nat) (b_MO_taped : zB MO_taped 0 1600) (b_MO_size : zB MO_size 0 1600) (b_MO_faultKind : zB MO_faultKind 0 5) (b_MO_at : zB MO_at 0 1600) (b_MO_end : zB MO_end 0 1600) (b_MO_token : zB MO_token 0 5) (b_MO_bank : zB MO_bank 0 1) (b_MO_rb : zB MO_rb 0 1) (b_MO_codes : zB MO_codes 0 1120) (b_MO_within : zB MO_within 0 7) (b_MO_piled : zB MO_piled 0 89) (b_MO_unitsInRule : zB MO_unitsInRule 0 30) (b_MO_askThing : zB MO_askThing 0 5) (b_MO_acts : zB MO_acts 0 40) (b_MO_undone : zB MO_undone 0 40) (b_MO_laid : zB MO_laid 0 8) (b_MO_heards : zB MO_heards 0 30) (b_MO_time : zB MO_time 0 100000) (s_MO_rooms_0 : zA MO_rooms 0 2 0 8) (s_MO_doors_0 : zA MO_doors 0 2 0 12) (s_MO_nearSide_0 : zA MO_nearSide 0 12 0 255) (s_MO_other_0 : zA MO_other 0 24 0 7) : Met l yX12_hunt wsX12_hunt ({ frames := 3, cells := 0, slots := 0, locals := 66 }) (xp D [(cI, .int), (cB, .byte), (cL, .long), (cZ, .boolean), (cG, .array .int)] [(MO, .inr (12, oX12 aMO MO_taped MO_size MO_faultKind MO_faultPlace MO_at MO_end MO_token MO_number MO_name MO_bank MO_rb MO_codes MO_within MO_piled MO_unitsInRule MO_askThing MO_acts MO_undone MO_laid MO_heards MO_time)), ((aMO 11), .inl (cI, 2, .inl MO_rooms)), ((aMO 54), .inl (cI, 256, .inl MO_hunts)), ((aMO 55), .inl (cI, 256, .inl MO_firsts)), ((aMO 12), .inl (cI, 2, .inl MO_doors)), ((aMO 44), .inl (cI, 12, .inl MO_nearSide)), ((aMO 18), .inl (cI, 24, .inl MO_other))] sz [] [.ref MO, .int x0]) (va_Qi (fun (r : Int32) (_ : Unit) => True) (fun (_ : Unit) (t : State) => ∃ (nMOhunts : Nat → Int32), ∃ (nMOfirsts : Nat → Int32), xB D (va_A [(MO, .inr (12, oX12 aMO MO_taped MO_size MO_faultKind MO_faultPlace MO_at MO_end MO_token MO_number MO_name MO_bank MO_rb MO_codes MO_within MO_piled MO_unitsInRule MO_askThing MO_acts MO_undone MO_laid MO_heards MO_time)), ((aMO 11), .inl (cI, 2, .inl MO_rooms)), ((aMO 54), .inl (cI, 256, .inl MO_hunts)), ((aMO 55), .inl (cI, 256, .inl MO_firsts)), ((aMO 12), .inl (cI, 2, .inl MO_doors)), ((aMO 44), .inl (cI, 12, .inl MO_nearSide)), ((aMO 18), .inl (cI, 24, .inl MO_other))] sz) [(MO, .inr (12, oX12 aMO MO_taped MO_size MO_faultKind MO_faultPlace MO_at MO_end MO_token MO_number MO_name MO_bank MO_rb MO_codes MO_within MO_piled MO_unitsInRule MO_askThing MO_acts MO_undone MO_laid MO_heards MO_time)), ((aMO 11), .inl (cI, 2, .inl MO_rooms)), ((aMO 54), .inl (cI, 256, .inl nMOhunts)), ((aMO 55), .inl (cI, 256, .inl nMOfirsts)), ((aMO 12), .inl (cI, 2, .inl MO_doors)), ((aMO 44), .inl (cI, 12, .inl MO_nearSide)), ((aMO 18), .inl (cI, 24, .inl MO_other))] t) (va_A [(MO, .inr (12, oX12 aMO MO_taped MO_size MO_faultKind MO_faultPlace MO_at MO_end MO_token MO_number MO_name MO_bank MO_rb MO_codes MO_within MO_piled MO_unitsInRule MO_askThing MO_acts MO_undone MO_laid MO_heards MO_time)), ((aMO 11), .inl (cI, 2, .inl MO_rooms)), ((aMO 54), .inl (cI, 256, .inl MO_hunts)), ((aMO 55), .inl (cI, 256, .inl MO_firsts)), ((aMO 12), .inl (cI, 2, .inl MO_doors)), ((aMO 44), .inl (cI, 12, .inl MO_nearSide)), ((aMO 18), .inl (cI, 24, .inl MO_other))] sz)) 0 0 (va_A [(MO, .inr (12, oX12 aMO MO_taped MO_size MO_faultKind MO_faultPlace MO_at MO_end MO_token MO_number MO_name MO_bank MO_rb MO_codes MO_within MO_piled MO_unitsInRule MO_askThing MO_acts MO_undone MO_laid MO_heards MO_time)), ((aMO 11), .inl (cI, 2, .inl MO_rooms)), ((aMO 54), .inl (cI, 256, .inl MO_hunts)), ((aMO 55), .inl (cI, 256, .inl MO_firsts)), ((aMO 12), .inl (cI, 2, .inl MO_doors)), ((aMO 44), .inl (cI, 12, .inl MO_nearSide)), ((aMO 18), .inl (cI, 24, .inl MO_other))] sz) := by
  refine Met.ofW (cc := cX12_hunt) (maxL := 2) (ret := (some .int)) (by decide) rfl ?_
  intro p e s m args below meth c s₁ B hml hv
  obtain ⟨rfl, hsz, hP, hK, hD0, hNw⟩ := hv
  have hx := B.exec
  have hb := B.bytes
  have hr := B.returns
  have hts := atoms_spec (ws := wsX12_hunt) B.pre
  have hown : s.vm.findClass RX12 = some m.cls := findClass_of_methodNamed B.named
  have hlocks := B.notSynchronized
  clear B
  subst hsz
  have hD := hD0.self (sz := s.heap.size)
  clear hD0 hNw
  generalize hAe : va_A [(MO, .inr (12, oX12 aMO MO_taped MO_size MO_faultKind MO_faultPlace MO_at MO_end MO_token MO_number MO_name MO_bank MO_rb MO_codes MO_within MO_piled MO_unitsInRule MO_askThing MO_acts MO_undone MO_laid MO_heards MO_time)), ((aMO 11), .inl (cI, 2, .inl MO_rooms)), ((aMO 54), .inl (cI, 256, .inl MO_hunts)), ((aMO 55), .inl (cI, 256, .inl MO_firsts)), ((aMO 12), .inl (cI, 2, .inl MO_doors)), ((aMO 44), .inl (cI, 12, .inl MO_nearSide)), ((aMO 18), .inl (cI, 24, .inl MO_other))] s.heap.size = A at hD ⊢
  have hA : ∀ q : Nat, s.heap.size ≤ q → A q := fun q h => by rw [← hAe]; exact Or.inr h
  have hS : va_S A s.heap s.heap [] := va_S.rf
  clear hAe
  obtain ⟨H, hH⟩ : ∃ H : Heap, H = s.heap := ⟨_, rfl⟩
  obtain ⟨locs, hlocs⟩ : ∃ L : List Loc, L = [] := ⟨_, rfl⟩
  replace hP : va_P D classes [(MO, .inr (12, oX12 aMO MO_taped MO_size MO_faultKind MO_faultPlace MO_at MO_end MO_token MO_number MO_name MO_bank MO_rb MO_codes MO_within MO_piled MO_unitsInRule MO_askThing MO_acts MO_undone MO_laid MO_heards MO_time)), ((aMO 11), .inl (cI, 2, .inl MO_rooms)), ((aMO 54), .inl (cI, 256, .inl MO_hunts)), ((aMO 55), .inl (cI, 256, .inl MO_firsts)), ((aMO 12), .inl (cI, 2, .inl MO_doors)), ((aMO 44), .inl (cI, 12, .inl MO_nearSide)), ((aMO 18), .inl (cI, 24, .inl MO_other))] H := by rw [hH]; exact hP
  replace hS : va_S A s.heap H locs := by rw [hH, hlocs]; exact hS
  rw [← hH, ← hlocs]
  clear hlocs hH
  have hl := lv_entry ([.ref MO, .int x0]) (n := 2) (Nat.le_of_ble_eq_true rfl)
  rw [lg_entry_eq]
  generalize (lg_sl ([.ref MO, .int x0]) ++ List.replicate (2 - (lg_sl ([.ref MO, .int x0])).length) Slot.unset).toArray = ls at hl ⊢
  replace hl : lv_has ls 2 [(0, .ref MO), (1, .int x0)] := hl
  refine lv_aload_n hx hb dX12_hunt_0 rfl (lv_at hl 0 rfl) ?_
  refine lv_iload_n hx hb dX12_hunt_1 rfl (lv_at hl 1 rfl) ?_
  have hPc := hP.sub (ws' := [(MO, .inr (12, oX12 aMO MO_taped MO_size MO_faultKind MO_faultPlace MO_at MO_end MO_token MO_number MO_name MO_bank MO_rb MO_codes MO_within MO_piled MO_unitsInRule MO_askThing MO_acts MO_undone MO_laid MO_heards MO_time)), ((aMO 11), .inl (cI, 2, .inl MO_rooms))]) [0, 1] rfl
  refine vp_callSi (va_runV (As := [.int x0]) (rest := []) ⟨hx, hb, hml, hown, hts⟩ (c_X12_isSet l D cI cB cL cZ cG MO x0 aMO MO_taped MO_size MO_faultKind MO_faultPlace MO_at MO_end MO_token MO_number MO_name MO_bank MO_rb MO_codes MO_within MO_piled MO_unitsInRule MO_askThing MO_acts MO_undone MO_laid MO_heards MO_time MO_rooms b_MO_taped b_MO_size b_MO_faultKind b_MO_at b_MO_end b_MO_token b_MO_bank b_MO_rb b_MO_codes b_MO_within b_MO_piled b_MO_unitsInRule b_MO_askThing b_MO_acts b_MO_undone b_MO_laid b_MO_heards b_MO_time s_MO_rooms_0) (cwV 1 hts gX12_hunt_X12_isSet rfl rfl rfl (by decide +kernel) ⟨Nat.le_of_ble_eq_true rfl, Nat.le_of_ble_eq_true rfl⟩) ⟨xr_blind, va_recv hK hP (ci := 12) (q0 := 0) rfl rfl, fun U hU hW => xr_mk hU hW hPc hK⟩ rfl rfl hl.1 rfl (lv_room (Nat.le_of_ble_eq_true rfl)) dX12_hunt_2 ⟨Nat.le_of_ble_eq_true rfl, Nat.le_of_ble_eq_true rfl⟩).run (fun r2 hr2 => ?_)
  clear hPc
  rcases hr2 with rfl | ⟨rfl, hr2_1_0⟩
  · refine lv_if_eq (tgt := 12) hx hb dX12_hunt_5 (by decide) (fun _ => ?_) (fun c5 => absurd (by decide) c5)
    refine lv_iconst (v := (-1)) hx hb dX12_hunt_12 (by decide) ?_
    exact W.iret (v := (-1)) hx hb hr (fun t ht hW => ⟨⟨(-1), (), rfl, trivial, ⟨MO_hunts, MO_firsts, by rw [ht]; exact hP, hD⟩⟩, hS.F ht⟩) hS.2.2 dX12_hunt_13
  · refine lv_if_eq (tgt := 12) hx hb dX12_hunt_5 (by decide) (fun c5 => absurd c5 (by decide)) (fun _ => ?_)
    refine lv_iload_n hx hb dX12_hunt_8 rfl (lv_at hl 1 rfl) ?_
    refine lv_if_ne (tgt := 14) hx hb dX12_hunt_9 (by decide) (fun c9 => ?_) (fun c9 => ?_)
    · have bn9t_x0 : zB x0 1 255 := zB_neL c9 hr2_1_0 (show zB 0 0 0 from ⟨by decide, by decide⟩) (by decide)
      refine lv_aload_n hx hb dX12_hunt_14 rfl (lv_at hl 0 rfl) ?_
      have hPc := hP.sub (ws' := [(MO, .inr (12, oX12 aMO MO_taped MO_size MO_faultKind MO_faultPlace MO_at MO_end MO_token MO_number MO_name MO_bank MO_rb MO_codes MO_within MO_piled MO_unitsInRule MO_askThing MO_acts MO_undone MO_laid MO_heards MO_time)), ((aMO 11), .inl (cI, 2, .inl MO_rooms)), ((aMO 54), .inl (cI, 256, .inl MO_hunts)), ((aMO 55), .inl (cI, 256, .inl MO_firsts)), ((aMO 12), .inl (cI, 2, .inl MO_doors)), ((aMO 44), .inl (cI, 12, .inl MO_nearSide)), ((aMO 18), .inl (cI, 24, .inl MO_other))]) [0, 1, 2, 3, 4, 5, 6] rfl
      have hDc := hD.sub (ws' := [(MO, .inr (12, oX12 aMO MO_taped MO_size MO_faultKind MO_faultPlace MO_at MO_end MO_token MO_number MO_name MO_bank MO_rb MO_codes MO_within MO_piled MO_unitsInRule MO_askThing MO_acts MO_undone MO_laid MO_heards MO_time)), ((aMO 11), .inl (cI, 2, .inl MO_rooms)), ((aMO 54), .inl (cI, 256, .inl MO_hunts)), ((aMO 55), .inl (cI, 256, .inl MO_firsts)), ((aMO 12), .inl (cI, 2, .inl MO_doors)), ((aMO 44), .inl (cI, 12, .inl MO_nearSide)), ((aMO 18), .inl (cI, 24, .inl MO_other))]) [0, 1, 2, 3, 4, 5, 6] (by decide) rfl
      have hFc := va_free (wc := [(MO, .inr (12, oX12 aMO MO_taped MO_size MO_faultKind MO_faultPlace MO_at MO_end MO_token MO_number MO_name MO_bank MO_rb MO_codes MO_within MO_piled MO_unitsInRule MO_askThing MO_acts MO_undone MO_laid MO_heards MO_time)), ((aMO 11), .inl (cI, 2, .inl MO_rooms)), ((aMO 54), .inl (cI, 256, .inl MO_hunts)), ((aMO 55), .inl (cI, 256, .inl MO_firsts)), ((aMO 12), .inl (cI, 2, .inl MO_doors)), ((aMO 44), .inl (cI, 12, .inl MO_nearSide)), ((aMO 18), .inl (cI, 24, .inl MO_other))]) hD hS hA [0, 1, 2, 3, 4, 5, 6] rfl
      refine va_callv (va_runV (As := []) (rest := []) ⟨hx, hb, hml, hown, hts⟩ (c_X12_layHunts l D cI cB cL cZ cG MO aMO MO_taped MO_size MO_faultKind MO_faultPlace MO_at MO_end MO_token MO_number MO_name MO_bank MO_rb MO_codes MO_within MO_piled MO_unitsInRule MO_askThing MO_acts MO_undone MO_laid MO_heards MO_time MO_rooms MO_hunts MO_firsts MO_doors MO_nearSide MO_other H.size b_MO_taped b_MO_size b_MO_faultKind b_MO_at b_MO_end b_MO_token b_MO_bank b_MO_rb b_MO_codes b_MO_within b_MO_piled b_MO_unitsInRule b_MO_askThing b_MO_acts b_MO_undone b_MO_laid b_MO_heards b_MO_time s_MO_rooms_0 s_MO_doors_0 s_MO_nearSide_0 s_MO_other_0) (cwV 0 hts gX12_hunt_X12_layHunts rfl rfl rfl (by decide +kernel) ⟨Nat.le_of_ble_eq_true rfl, Nat.le_of_ble_eq_true rfl⟩) ⟨xp_blind, va_recv hK hP (ci := 12) (q0 := 0) rfl rfl, fun U hU hW => xp_mk hU hW hPc hK hDc xNw_nil⟩ rfl rfl hl.1 rfl (lv_room (Nat.le_of_ble_eq_true rfl)) dX12_hunt_15 ⟨Nat.le_of_ble_eq_true rfl, Nat.le_of_ble_eq_true rfl⟩) hS (fun q _ h => hFc q h) hFc (fun u9 t9 H1 locs ht9 hvm9 hr15 hB9 hz9 hk9 hS => ?_)
      obtain ⟨o15_nMOhunts, o15_nMOfirsts, hP1, hD1⟩ := hB9
      rw [ht9] at hP1
      obtain ⟨hP, hD⟩ := va_join (wr := []) (w1 := [(MO, .inr (12, oX12 aMO MO_taped MO_size MO_faultKind MO_faultPlace MO_at MO_end MO_token MO_number MO_name MO_bank MO_rb MO_codes MO_within MO_piled MO_unitsInRule MO_askThing MO_acts MO_undone MO_laid MO_heards MO_time)), ((aMO 11), .inl (cI, 2, .inl MO_rooms)), ((aMO 54), .inl (cI, 256, .inl o15_nMOhunts)), ((aMO 55), .inl (cI, 256, .inl o15_nMOfirsts)), ((aMO 12), .inl (cI, 2, .inl MO_doors)), ((aMO 44), .inl (cI, 12, .inl MO_nearSide)), ((aMO 18), .inl (cI, 24, .inl MO_other))]) hP hD [0, 1, 2, 3, 4, 5, 6] [] rfl rfl (by decide) (by decide) hk9 hFc hP1 hD1
      clear hz9 hPc hDc hP1 hD1 hk9 hFc ht9 hvm9 u9 t9
      generalize H1 = H at hP hS ⊢
      replace hP : va_P D classes [(MO, .inr (12, oX12 aMO MO_taped MO_size MO_faultKind MO_faultPlace MO_at MO_end MO_token MO_number MO_name MO_bank MO_rb MO_codes MO_within MO_piled MO_unitsInRule MO_askThing MO_acts MO_undone MO_laid MO_heards MO_time)), ((aMO 11), .inl (cI, 2, .inl MO_rooms)), ((aMO 54), .inl (cI, 256, .inl o15_nMOhunts)), ((aMO 55), .inl (cI, 256, .inl o15_nMOfirsts)), ((aMO 12), .inl (cI, 2, .inl MO_doors)), ((aMO 44), .inl (cI, 12, .inl MO_nearSide)), ((aMO 18), .inl (cI, 24, .inl MO_other))] H := hP
      replace hD : va_D A [(MO, .inr (12, oX12 aMO MO_taped MO_size MO_faultKind MO_faultPlace MO_at MO_end MO_token MO_number MO_name MO_bank MO_rb MO_codes MO_within MO_piled MO_unitsInRule MO_askThing MO_acts MO_undone MO_laid MO_heards MO_time)), ((aMO 11), .inl (cI, 2, .inl MO_rooms)), ((aMO 54), .inl (cI, 256, .inl o15_nMOhunts)), ((aMO 55), .inl (cI, 256, .inl o15_nMOfirsts)), ((aMO 12), .inl (cI, 2, .inl MO_doors)), ((aMO 44), .inl (cI, 12, .inl MO_nearSide)), ((aMO 18), .inl (cI, 24, .inl MO_other))] := hD
      refine lv_aload_n hx hb dX12_hunt_18 rfl (lv_at hl 0 rfl) ?_
      refine va_get (D := D) (ci := 12) (v := .ref (aMO 54)) (C := RX12) (T := TX12) (N := 71) hx hb hts iw_X12_hunt_X12 hown hK hP 0 rfl rfl 54 (by decide) (hts (.fieldLink RX12 122 "SoldHouseModel" "hunts" "[I") (List.mem_of_getElem? (i := 1) rfl)) (fun _ h9 => h9) rfl dX12_hunt_19 ?_
      refine lv_iload_n hx hb dX12_hunt_22 rfl (lv_at hl 1 rfl) ?_
      refine va_iald hx hb hK hP 2 0 rfl rfl (zB_in bn9t_x0 (by decide) (by decide)) dX12_hunt_23 ?_
      refine lv_topi (fun y23 _ => ?_)
      refine lv_sipush (v := 10000) hx hb dX12_hunt_24 (by decide) ?_
      refine lv_icmp_lt (tgt := 34) hx hb dX12_hunt_27 (by decide) (fun c27 => ?_) (fun c27 => ?_)
      · have bx27t_y23 : zB y23 (-2147483648) 9999 := zB_ltu (zl c27) (zB_top y23) (show zB 10000 10000 10000 from ⟨by decide, by decide⟩) (by decide)
        refine lv_aload_n hx hb dX12_hunt_34 rfl (lv_at hl 0 rfl) ?_
        refine va_get (D := D) (ci := 12) (v := .ref (aMO 54)) (C := RX12) (T := TX12) (N := 71) hx hb hts iw_X12_hunt_X12 hown hK hP 0 rfl rfl 54 (by decide) (hts (.fieldLink RX12 122 "SoldHouseModel" "hunts" "[I") (List.mem_of_getElem? (i := 1) rfl)) (fun _ h9 => h9) rfl dX12_hunt_35 ?_
        refine lv_iload_n hx hb dX12_hunt_38 rfl (lv_at hl 1 rfl) ?_
        refine va_iald hx hb hK hP 2 0 rfl rfl (zB_in bn9t_x0 (by decide) (by decide)) dX12_hunt_39 ?_
        refine lv_topi (fun y39 _ => ?_)
        exact W.iret (v := y39) hx hb hr (fun t ht hW => ⟨⟨y39, (), rfl, trivial, ⟨o15_nMOhunts, o15_nMOfirsts, by rw [ht]; exact hP, hD⟩⟩, hS.F ht⟩) hS.2.2 dX12_hunt_40
      · have by27f_y23 : zB y23 10000 2147483647 := zB_lev (zg c27) (show zB 10000 10000 10000 from ⟨by decide, by decide⟩) (zB_top y23) (by decide)
        refine lv_iconst (v := (-1)) hx hb dX12_hunt_30 (by decide) ?_
        refine lv_goto (tgt := 40) hx hb dX12_hunt_31 (by decide) ?_
        exact W.iret (v := (-1)) hx hb hr (fun t ht hW => ⟨⟨(-1), (), rfl, trivial, ⟨o15_nMOhunts, o15_nMOfirsts, by rw [ht]; exact hP, hD⟩⟩, hS.F ht⟩) hS.2.2 dX12_hunt_40
    · have be9f_x0 : zB x0 0 0 := zB_eq c9 hr2_1_0 (show zB 0 0 0 from ⟨by decide, by decide⟩) (by decide) (by decide)
      refine lv_iconst (v := (-1)) hx hb dX12_hunt_12 (by decide) ?_
      exact W.iret (v := (-1)) hx hb hr (fun t ht hW => ⟨⟨(-1), (), rfl, trivial, ⟨MO_hunts, MO_firsts, by rw [ht]; exact hP, hD⟩⟩, hS.F ht⟩) hS.2.2 dX12_hunt_13
set_option maxHeartbeats 4000000 in
set_option maxRecDepth 100000 in
theorem c_X12_first (l : Launch) (D : va_G) (cI : ClassId) (cB : ClassId) (cL : ClassId) (cZ : ClassId) (cG : ClassId) (MO : Nat) (x0 : Int32) (aMO : Nat → Nat) (MO_taped : Int32) (MO_size : Int32) (MO_faultKind : Int32) (MO_faultPlace : Int32) (MO_at : Int32) (MO_end : Int32) (MO_token : Int32) (MO_number : Int32) (MO_name : Int64) (MO_bank : Int32) (MO_rb : Int32) (MO_codes : Int32) (MO_within : Int32) (MO_piled : Int32) (MO_unitsInRule : Int32) (MO_askThing : Int32) (MO_acts : Int32) (MO_undone : Int32) (MO_laid : Int32) (MO_heards : Int32) (MO_time : Int32) (MO_rooms : Nat → Int32) (MO_hunts : Nat → Int32) (MO_firsts : Nat → Int32) (MO_doors : Nat → Int32) (MO_nearSide : Nat → Int32) (MO_other : Nat → Int32) (sz : Nat) (b_MO_taped : zB MO_taped 0 1600) (b_MO_size : zB MO_size 0 1600) (b_MO_faultKind : zB MO_faultKind 0 5) (b_MO_at : zB MO_at 0 1600) (b_MO_end : zB MO_end 0 1600) (b_MO_token : zB MO_token 0 5) (b_MO_bank : zB MO_bank 0 1) (b_MO_rb : zB MO_rb 0 1) (b_MO_codes : zB MO_codes 0 1120) (b_MO_within : zB MO_within 0 7) (b_MO_piled : zB MO_piled 0 89) (b_MO_unitsInRule : zB MO_unitsInRule 0 30) (b_MO_askThing : zB MO_askThing 0 5) (b_MO_acts : zB MO_acts 0 40) (b_MO_undone : zB MO_undone 0 40) (b_MO_laid : zB MO_laid 0 8) (b_MO_heards : zB MO_heards 0 30) (b_MO_time : zB MO_time 0 100000) (s_MO_rooms_0 : zA MO_rooms 0 2 0 8) (s_MO_doors_0 : zA MO_doors 0 2 0 12) (s_MO_nearSide_0 : zA MO_nearSide 0 12 0 255) (s_MO_other_0 : zA MO_other 0 24 0 7) : Met l yX12_first wsX12_first ({ frames := 3, cells := 0, slots := 0, locals := 66 }) (xp D [(cI, .int), (cB, .byte), (cL, .long), (cZ, .boolean), (cG, .array .int)] [(MO, .inr (12, oX12 aMO MO_taped MO_size MO_faultKind MO_faultPlace MO_at MO_end MO_token MO_number MO_name MO_bank MO_rb MO_codes MO_within MO_piled MO_unitsInRule MO_askThing MO_acts MO_undone MO_laid MO_heards MO_time)), ((aMO 11), .inl (cI, 2, .inl MO_rooms)), ((aMO 54), .inl (cI, 256, .inl MO_hunts)), ((aMO 55), .inl (cI, 256, .inl MO_firsts)), ((aMO 12), .inl (cI, 2, .inl MO_doors)), ((aMO 44), .inl (cI, 12, .inl MO_nearSide)), ((aMO 18), .inl (cI, 24, .inl MO_other))] sz [] [.ref MO, .int x0]) (va_Qi (fun (r : Int32) (_ : Unit) => True) (fun (_ : Unit) (t : State) => ∃ (nMOhunts : Nat → Int32), ∃ (nMOfirsts : Nat → Int32), xB D (va_A [(MO, .inr (12, oX12 aMO MO_taped MO_size MO_faultKind MO_faultPlace MO_at MO_end MO_token MO_number MO_name MO_bank MO_rb MO_codes MO_within MO_piled MO_unitsInRule MO_askThing MO_acts MO_undone MO_laid MO_heards MO_time)), ((aMO 11), .inl (cI, 2, .inl MO_rooms)), ((aMO 54), .inl (cI, 256, .inl MO_hunts)), ((aMO 55), .inl (cI, 256, .inl MO_firsts)), ((aMO 12), .inl (cI, 2, .inl MO_doors)), ((aMO 44), .inl (cI, 12, .inl MO_nearSide)), ((aMO 18), .inl (cI, 24, .inl MO_other))] sz) [(MO, .inr (12, oX12 aMO MO_taped MO_size MO_faultKind MO_faultPlace MO_at MO_end MO_token MO_number MO_name MO_bank MO_rb MO_codes MO_within MO_piled MO_unitsInRule MO_askThing MO_acts MO_undone MO_laid MO_heards MO_time)), ((aMO 11), .inl (cI, 2, .inl MO_rooms)), ((aMO 54), .inl (cI, 256, .inl nMOhunts)), ((aMO 55), .inl (cI, 256, .inl nMOfirsts)), ((aMO 12), .inl (cI, 2, .inl MO_doors)), ((aMO 44), .inl (cI, 12, .inl MO_nearSide)), ((aMO 18), .inl (cI, 24, .inl MO_other))] t) (va_A [(MO, .inr (12, oX12 aMO MO_taped MO_size MO_faultKind MO_faultPlace MO_at MO_end MO_token MO_number MO_name MO_bank MO_rb MO_codes MO_within MO_piled MO_unitsInRule MO_askThing MO_acts MO_undone MO_laid MO_heards MO_time)), ((aMO 11), .inl (cI, 2, .inl MO_rooms)), ((aMO 54), .inl (cI, 256, .inl MO_hunts)), ((aMO 55), .inl (cI, 256, .inl MO_firsts)), ((aMO 12), .inl (cI, 2, .inl MO_doors)), ((aMO 44), .inl (cI, 12, .inl MO_nearSide)), ((aMO 18), .inl (cI, 24, .inl MO_other))] sz)) 0 0 (va_A [(MO, .inr (12, oX12 aMO MO_taped MO_size MO_faultKind MO_faultPlace MO_at MO_end MO_token MO_number MO_name MO_bank MO_rb MO_codes MO_within MO_piled MO_unitsInRule MO_askThing MO_acts MO_undone MO_laid MO_heards MO_time)), ((aMO 11), .inl (cI, 2, .inl MO_rooms)), ((aMO 54), .inl (cI, 256, .inl MO_hunts)), ((aMO 55), .inl (cI, 256, .inl MO_firsts)), ((aMO 12), .inl (cI, 2, .inl MO_doors)), ((aMO 44), .inl (cI, 12, .inl MO_nearSide)), ((aMO 18), .inl (cI, 24, .inl MO_other))] sz) := by
  refine Met.ofW (cc := cX12_first) (maxL := 2) (ret := (some .int)) (by decide) rfl ?_
  intro p e s m args below meth c s₁ B hml hv
  obtain ⟨rfl, hsz, hP, hK, hD0, hNw⟩ := hv
  have hx := B.exec
  have hb := B.bytes
  have hr := B.returns
  have hts := atoms_spec (ws := wsX12_first) B.pre
  have hown : s.vm.findClass RX12 = some m.cls := findClass_of_methodNamed B.named
  have hlocks := B.notSynchronized
  clear B
  subst hsz
  have hD := hD0.self (sz := s.heap.size)
  clear hD0 hNw
  generalize hAe : va_A [(MO, .inr (12, oX12 aMO MO_taped MO_size MO_faultKind MO_faultPlace MO_at MO_end MO_token MO_number MO_name MO_bank MO_rb MO_codes MO_within MO_piled MO_unitsInRule MO_askThing MO_acts MO_undone MO_laid MO_heards MO_time)), ((aMO 11), .inl (cI, 2, .inl MO_rooms)), ((aMO 54), .inl (cI, 256, .inl MO_hunts)), ((aMO 55), .inl (cI, 256, .inl MO_firsts)), ((aMO 12), .inl (cI, 2, .inl MO_doors)), ((aMO 44), .inl (cI, 12, .inl MO_nearSide)), ((aMO 18), .inl (cI, 24, .inl MO_other))] s.heap.size = A at hD ⊢
  have hA : ∀ q : Nat, s.heap.size ≤ q → A q := fun q h => by rw [← hAe]; exact Or.inr h
  have hS : va_S A s.heap s.heap [] := va_S.rf
  clear hAe
  obtain ⟨H, hH⟩ : ∃ H : Heap, H = s.heap := ⟨_, rfl⟩
  obtain ⟨locs, hlocs⟩ : ∃ L : List Loc, L = [] := ⟨_, rfl⟩
  replace hP : va_P D classes [(MO, .inr (12, oX12 aMO MO_taped MO_size MO_faultKind MO_faultPlace MO_at MO_end MO_token MO_number MO_name MO_bank MO_rb MO_codes MO_within MO_piled MO_unitsInRule MO_askThing MO_acts MO_undone MO_laid MO_heards MO_time)), ((aMO 11), .inl (cI, 2, .inl MO_rooms)), ((aMO 54), .inl (cI, 256, .inl MO_hunts)), ((aMO 55), .inl (cI, 256, .inl MO_firsts)), ((aMO 12), .inl (cI, 2, .inl MO_doors)), ((aMO 44), .inl (cI, 12, .inl MO_nearSide)), ((aMO 18), .inl (cI, 24, .inl MO_other))] H := by rw [hH]; exact hP
  replace hS : va_S A s.heap H locs := by rw [hH, hlocs]; exact hS
  rw [← hH, ← hlocs]
  clear hlocs hH
  have hl := lv_entry ([.ref MO, .int x0]) (n := 2) (Nat.le_of_ble_eq_true rfl)
  rw [lg_entry_eq]
  generalize (lg_sl ([.ref MO, .int x0]) ++ List.replicate (2 - (lg_sl ([.ref MO, .int x0])).length) Slot.unset).toArray = ls at hl ⊢
  replace hl : lv_has ls 2 [(0, .ref MO), (1, .int x0)] := hl
  refine lv_aload_n hx hb dX12_first_0 rfl (lv_at hl 0 rfl) ?_
  refine lv_iload_n hx hb dX12_first_1 rfl (lv_at hl 1 rfl) ?_
  have hPc := hP.sub (ws' := [(MO, .inr (12, oX12 aMO MO_taped MO_size MO_faultKind MO_faultPlace MO_at MO_end MO_token MO_number MO_name MO_bank MO_rb MO_codes MO_within MO_piled MO_unitsInRule MO_askThing MO_acts MO_undone MO_laid MO_heards MO_time)), ((aMO 11), .inl (cI, 2, .inl MO_rooms))]) [0, 1] rfl
  refine vp_callSi (va_runV (As := [.int x0]) (rest := []) ⟨hx, hb, hml, hown, hts⟩ (c_X12_isSet l D cI cB cL cZ cG MO x0 aMO MO_taped MO_size MO_faultKind MO_faultPlace MO_at MO_end MO_token MO_number MO_name MO_bank MO_rb MO_codes MO_within MO_piled MO_unitsInRule MO_askThing MO_acts MO_undone MO_laid MO_heards MO_time MO_rooms b_MO_taped b_MO_size b_MO_faultKind b_MO_at b_MO_end b_MO_token b_MO_bank b_MO_rb b_MO_codes b_MO_within b_MO_piled b_MO_unitsInRule b_MO_askThing b_MO_acts b_MO_undone b_MO_laid b_MO_heards b_MO_time s_MO_rooms_0) (cwV 1 hts gX12_first_X12_isSet rfl rfl rfl (by decide +kernel) ⟨Nat.le_of_ble_eq_true rfl, Nat.le_of_ble_eq_true rfl⟩) ⟨xr_blind, va_recv hK hP (ci := 12) (q0 := 0) rfl rfl, fun U hU hW => xr_mk hU hW hPc hK⟩ rfl rfl hl.1 rfl (lv_room (Nat.le_of_ble_eq_true rfl)) dX12_first_2 ⟨Nat.le_of_ble_eq_true rfl, Nat.le_of_ble_eq_true rfl⟩).run (fun r2 hr2 => ?_)
  clear hPc
  rcases hr2 with rfl | ⟨rfl, hr2_1_0⟩
  · refine lv_if_eq (tgt := 12) hx hb dX12_first_5 (by decide) (fun _ => ?_) (fun c5 => absurd (by decide) c5)
    refine lv_iconst (v := (-1)) hx hb dX12_first_12 (by decide) ?_
    exact W.iret (v := (-1)) hx hb hr (fun t ht hW => ⟨⟨(-1), (), rfl, trivial, ⟨MO_hunts, MO_firsts, by rw [ht]; exact hP, hD⟩⟩, hS.F ht⟩) hS.2.2 dX12_first_13
  · refine lv_if_eq (tgt := 12) hx hb dX12_first_5 (by decide) (fun c5 => absurd c5 (by decide)) (fun _ => ?_)
    refine lv_iload_n hx hb dX12_first_8 rfl (lv_at hl 1 rfl) ?_
    refine lv_if_ne (tgt := 14) hx hb dX12_first_9 (by decide) (fun c9 => ?_) (fun c9 => ?_)
    · have bn9t_x0 : zB x0 1 255 := zB_neL c9 hr2_1_0 (show zB 0 0 0 from ⟨by decide, by decide⟩) (by decide)
      refine lv_aload_n hx hb dX12_first_14 rfl (lv_at hl 0 rfl) ?_
      have hPc := hP.sub (ws' := [(MO, .inr (12, oX12 aMO MO_taped MO_size MO_faultKind MO_faultPlace MO_at MO_end MO_token MO_number MO_name MO_bank MO_rb MO_codes MO_within MO_piled MO_unitsInRule MO_askThing MO_acts MO_undone MO_laid MO_heards MO_time)), ((aMO 11), .inl (cI, 2, .inl MO_rooms)), ((aMO 54), .inl (cI, 256, .inl MO_hunts)), ((aMO 55), .inl (cI, 256, .inl MO_firsts)), ((aMO 12), .inl (cI, 2, .inl MO_doors)), ((aMO 44), .inl (cI, 12, .inl MO_nearSide)), ((aMO 18), .inl (cI, 24, .inl MO_other))]) [0, 1, 2, 3, 4, 5, 6] rfl
      have hDc := hD.sub (ws' := [(MO, .inr (12, oX12 aMO MO_taped MO_size MO_faultKind MO_faultPlace MO_at MO_end MO_token MO_number MO_name MO_bank MO_rb MO_codes MO_within MO_piled MO_unitsInRule MO_askThing MO_acts MO_undone MO_laid MO_heards MO_time)), ((aMO 11), .inl (cI, 2, .inl MO_rooms)), ((aMO 54), .inl (cI, 256, .inl MO_hunts)), ((aMO 55), .inl (cI, 256, .inl MO_firsts)), ((aMO 12), .inl (cI, 2, .inl MO_doors)), ((aMO 44), .inl (cI, 12, .inl MO_nearSide)), ((aMO 18), .inl (cI, 24, .inl MO_other))]) [0, 1, 2, 3, 4, 5, 6] (by decide) rfl
      have hFc := va_free (wc := [(MO, .inr (12, oX12 aMO MO_taped MO_size MO_faultKind MO_faultPlace MO_at MO_end MO_token MO_number MO_name MO_bank MO_rb MO_codes MO_within MO_piled MO_unitsInRule MO_askThing MO_acts MO_undone MO_laid MO_heards MO_time)), ((aMO 11), .inl (cI, 2, .inl MO_rooms)), ((aMO 54), .inl (cI, 256, .inl MO_hunts)), ((aMO 55), .inl (cI, 256, .inl MO_firsts)), ((aMO 12), .inl (cI, 2, .inl MO_doors)), ((aMO 44), .inl (cI, 12, .inl MO_nearSide)), ((aMO 18), .inl (cI, 24, .inl MO_other))]) hD hS hA [0, 1, 2, 3, 4, 5, 6] rfl
      refine va_callv (va_runV (As := []) (rest := []) ⟨hx, hb, hml, hown, hts⟩ (c_X12_layHunts l D cI cB cL cZ cG MO aMO MO_taped MO_size MO_faultKind MO_faultPlace MO_at MO_end MO_token MO_number MO_name MO_bank MO_rb MO_codes MO_within MO_piled MO_unitsInRule MO_askThing MO_acts MO_undone MO_laid MO_heards MO_time MO_rooms MO_hunts MO_firsts MO_doors MO_nearSide MO_other H.size b_MO_taped b_MO_size b_MO_faultKind b_MO_at b_MO_end b_MO_token b_MO_bank b_MO_rb b_MO_codes b_MO_within b_MO_piled b_MO_unitsInRule b_MO_askThing b_MO_acts b_MO_undone b_MO_laid b_MO_heards b_MO_time s_MO_rooms_0 s_MO_doors_0 s_MO_nearSide_0 s_MO_other_0) (cwV 0 hts gX12_first_X12_layHunts rfl rfl rfl (by decide +kernel) ⟨Nat.le_of_ble_eq_true rfl, Nat.le_of_ble_eq_true rfl⟩) ⟨xp_blind, va_recv hK hP (ci := 12) (q0 := 0) rfl rfl, fun U hU hW => xp_mk hU hW hPc hK hDc xNw_nil⟩ rfl rfl hl.1 rfl (lv_room (Nat.le_of_ble_eq_true rfl)) dX12_first_15 ⟨Nat.le_of_ble_eq_true rfl, Nat.le_of_ble_eq_true rfl⟩) hS (fun q _ h => hFc q h) hFc (fun u9 t9 H1 locs ht9 hvm9 hr15 hB9 hz9 hk9 hS => ?_)
      obtain ⟨o15_nMOhunts, o15_nMOfirsts, hP1, hD1⟩ := hB9
      rw [ht9] at hP1
      obtain ⟨hP, hD⟩ := va_join (wr := []) (w1 := [(MO, .inr (12, oX12 aMO MO_taped MO_size MO_faultKind MO_faultPlace MO_at MO_end MO_token MO_number MO_name MO_bank MO_rb MO_codes MO_within MO_piled MO_unitsInRule MO_askThing MO_acts MO_undone MO_laid MO_heards MO_time)), ((aMO 11), .inl (cI, 2, .inl MO_rooms)), ((aMO 54), .inl (cI, 256, .inl o15_nMOhunts)), ((aMO 55), .inl (cI, 256, .inl o15_nMOfirsts)), ((aMO 12), .inl (cI, 2, .inl MO_doors)), ((aMO 44), .inl (cI, 12, .inl MO_nearSide)), ((aMO 18), .inl (cI, 24, .inl MO_other))]) hP hD [0, 1, 2, 3, 4, 5, 6] [] rfl rfl (by decide) (by decide) hk9 hFc hP1 hD1
      clear hz9 hPc hDc hP1 hD1 hk9 hFc ht9 hvm9 u9 t9
      generalize H1 = H at hP hS ⊢
      replace hP : va_P D classes [(MO, .inr (12, oX12 aMO MO_taped MO_size MO_faultKind MO_faultPlace MO_at MO_end MO_token MO_number MO_name MO_bank MO_rb MO_codes MO_within MO_piled MO_unitsInRule MO_askThing MO_acts MO_undone MO_laid MO_heards MO_time)), ((aMO 11), .inl (cI, 2, .inl MO_rooms)), ((aMO 54), .inl (cI, 256, .inl o15_nMOhunts)), ((aMO 55), .inl (cI, 256, .inl o15_nMOfirsts)), ((aMO 12), .inl (cI, 2, .inl MO_doors)), ((aMO 44), .inl (cI, 12, .inl MO_nearSide)), ((aMO 18), .inl (cI, 24, .inl MO_other))] H := hP
      replace hD : va_D A [(MO, .inr (12, oX12 aMO MO_taped MO_size MO_faultKind MO_faultPlace MO_at MO_end MO_token MO_number MO_name MO_bank MO_rb MO_codes MO_within MO_piled MO_unitsInRule MO_askThing MO_acts MO_undone MO_laid MO_heards MO_time)), ((aMO 11), .inl (cI, 2, .inl MO_rooms)), ((aMO 54), .inl (cI, 256, .inl o15_nMOhunts)), ((aMO 55), .inl (cI, 256, .inl o15_nMOfirsts)), ((aMO 12), .inl (cI, 2, .inl MO_doors)), ((aMO 44), .inl (cI, 12, .inl MO_nearSide)), ((aMO 18), .inl (cI, 24, .inl MO_other))] := hD
      refine lv_aload_n hx hb dX12_first_18 rfl (lv_at hl 0 rfl) ?_
      refine va_get (D := D) (ci := 12) (v := .ref (aMO 54)) (C := RX12) (T := TX12) (N := 71) hx hb hts iw_X12_first_X12 hown hK hP 0 rfl rfl 54 (by decide) (hts (.fieldLink RX12 122 "SoldHouseModel" "hunts" "[I") (List.mem_of_getElem? (i := 1) rfl)) (fun _ h9 => h9) rfl dX12_first_19 ?_
      refine lv_iload_n hx hb dX12_first_22 rfl (lv_at hl 1 rfl) ?_
      refine va_iald hx hb hK hP 2 0 rfl rfl (zB_in bn9t_x0 (by decide) (by decide)) dX12_first_23 ?_
      refine lv_topi (fun y23 _ => ?_)
      refine lv_sipush (v := 10000) hx hb dX12_first_24 (by decide) ?_
      refine lv_icmp_lt (tgt := 34) hx hb dX12_first_27 (by decide) (fun c27 => ?_) (fun c27 => ?_)
      · have bx27t_y23 : zB y23 (-2147483648) 9999 := zB_ltu (zl c27) (zB_top y23) (show zB 10000 10000 10000 from ⟨by decide, by decide⟩) (by decide)
        refine lv_aload_n hx hb dX12_first_34 rfl (lv_at hl 0 rfl) ?_
        refine va_get (D := D) (ci := 12) (v := .ref (aMO 55)) (C := RX12) (T := TX12) (N := 71) hx hb hts iw_X12_first_X12 hown hK hP 0 rfl rfl 55 (by decide) (hts (.fieldLink RX12 125 "SoldHouseModel" "firsts" "[I") (List.mem_of_getElem? (i := 2) rfl)) (fun _ h9 => h9) rfl dX12_first_35 ?_
        refine lv_iload_n hx hb dX12_first_38 rfl (lv_at hl 1 rfl) ?_
        refine va_iald hx hb hK hP 3 0 rfl rfl (zB_in bn9t_x0 (by decide) (by decide)) dX12_first_39 ?_
        refine lv_topi (fun y39 _ => ?_)
        exact W.iret (v := y39) hx hb hr (fun t ht hW => ⟨⟨y39, (), rfl, trivial, ⟨o15_nMOhunts, o15_nMOfirsts, by rw [ht]; exact hP, hD⟩⟩, hS.F ht⟩) hS.2.2 dX12_first_40
      · have by27f_y23 : zB y23 10000 2147483647 := zB_lev (zg c27) (show zB 10000 10000 10000 from ⟨by decide, by decide⟩) (zB_top y23) (by decide)
        refine lv_iconst (v := (-1)) hx hb dX12_first_30 (by decide) ?_
        refine lv_goto (tgt := 40) hx hb dX12_first_31 (by decide) ?_
        exact W.iret (v := (-1)) hx hb hr (fun t ht hW => ⟨⟨(-1), (), rfl, trivial, ⟨o15_nMOhunts, o15_nMOfirsts, by rw [ht]; exact hP, hD⟩⟩, hS.F ht⟩) hS.2.2 dX12_first_40
    · have be9f_x0 : zB x0 0 0 := zB_eq c9 hr2_1_0 (show zB 0 0 0 from ⟨by decide, by decide⟩) (by decide) (by decide)
      refine lv_iconst (v := (-1)) hx hb dX12_first_12 (by decide) ?_
      exact W.iret (v := (-1)) hx hb hr (fun t ht hW => ⟨⟨(-1), (), rfl, trivial, ⟨MO_hunts, MO_firsts, by rw [ht]; exact hP, hD⟩⟩, hS.F ht⟩) hS.2.2 dX12_first_13
set_option maxHeartbeats 4000000 in
set_option maxRecDepth 100000 in
theorem c_X12_meet (l : Launch) (D : va_G) (cI : ClassId) (cB : ClassId) (cL : ClassId) (cZ : ClassId) (cG : ClassId) (MO : Nat) (x0 : Int32) (x1 : Int32) (x2 : Int32) (aMO : Nat → Nat) (MO_taped : Int32) (MO_size : Int32) (MO_faultKind : Int32) (MO_faultPlace : Int32) (MO_at : Int32) (MO_end : Int32) (MO_token : Int32) (MO_number : Int32) (MO_name : Int64) (MO_bank : Int32) (MO_rb : Int32) (MO_codes : Int32) (MO_within : Int32) (MO_piled : Int32) (MO_unitsInRule : Int32) (MO_askThing : Int32) (MO_acts : Int32) (MO_undone : Int32) (MO_laid : Int32) (MO_heards : Int32) (MO_time : Int32) (MO_rooms : Nat → Int32) (MO_table : Nat → Int32) (b_MO_taped : zB MO_taped 0 1600) (b_MO_size : zB MO_size 0 1600) (b_MO_faultKind : zB MO_faultKind 0 5) (b_MO_at : zB MO_at 0 1600) (b_MO_end : zB MO_end 0 1600) (b_MO_token : zB MO_token 0 5) (b_MO_bank : zB MO_bank 0 1) (b_MO_rb : zB MO_rb 0 1) (b_MO_codes : zB MO_codes 0 1120) (b_MO_within : zB MO_within 0 7) (b_MO_piled : zB MO_piled 0 89) (b_MO_unitsInRule : zB MO_unitsInRule 0 30) (b_MO_askThing : zB MO_askThing 0 5) (b_MO_acts : zB MO_acts 0 40) (b_MO_undone : zB MO_undone 0 40) (b_MO_laid : zB MO_laid 0 8) (b_MO_heards : zB MO_heards 0 30) (b_MO_time : zB MO_time 0 100000) (s_MO_rooms_0 : zA MO_rooms 0 2 0 8) (s_MO_table_0 : zA MO_table 0 64 0 10000) : Met l yX12_meet wsX12_meet ({ frames := 3, cells := 0, slots := 0, locals := 65 }) (xr D [(cI, .int), (cB, .byte), (cL, .long), (cZ, .boolean), (cG, .array .int)] [(MO, .inr (12, oX12 aMO MO_taped MO_size MO_faultKind MO_faultPlace MO_at MO_end MO_token MO_number MO_name MO_bank MO_rb MO_codes MO_within MO_piled MO_unitsInRule MO_askThing MO_acts MO_undone MO_laid MO_heards MO_time)), ((aMO 11), .inl (cI, 2, .inl MO_rooms)), ((aMO 43), .inl (cI, 64, .inl MO_table))] [.ref MO, .int x0, .int x1, .int x2]) (vp_Si (fun r => zB r (-1) 10000)) 0 0 (fun _ => False) := by
  refine Met.ofW (cc := cX12_meet) (maxL := 8) (ret := (some .int)) (by decide) rfl ?_
  intro p e s m args below meth c s₁ B hml hv
  obtain ⟨rfl, hP, hK⟩ := hv
  have hx := B.exec
  have hb := B.bytes
  have hr := B.returns
  have hts := atoms_spec (ws := wsX12_meet) B.pre
  have hown : s.vm.findClass RX12 = some m.cls := findClass_of_methodNamed B.named
  have hlocks := B.notSynchronized
  clear B
  have hl := lv_entry ([.ref MO, .int x0, .int x1, .int x2]) (n := 8) (Nat.le_of_ble_eq_true rfl)
  rw [lg_entry_eq]
  generalize (lg_sl ([.ref MO, .int x0, .int x1, .int x2]) ++ List.replicate (8 - (lg_sl ([.ref MO, .int x0, .int x1, .int x2])).length) Slot.unset).toArray = ls at hl ⊢
  replace hl : lv_has ls 8 [(0, .ref MO), (1, .int x0), (2, .int x1), (3, .int x2)] := hl
  refine zz_abs (R := ({ frames := 3, cells := 0, slots := 0, locals := 65 } : Room)) (fun Q up => ?_)
  refine lv_aload_n hx hb dX12_meet_0 rfl (lv_at hl 0 rfl) ?_
  refine lv_iload_n hx hb dX12_meet_1 rfl (lv_at hl 1 rfl) ?_
  refine lv_iload_n hx hb dX12_meet_2 rfl (lv_at hl 2 rfl) ?_
  have hPc := hP.sub (ws' := [(MO, .inr (12, oX12 aMO MO_taped MO_size MO_faultKind MO_faultPlace MO_at MO_end MO_token MO_number MO_name MO_bank MO_rb MO_codes MO_within MO_piled MO_unitsInRule MO_askThing MO_acts MO_undone MO_laid MO_heards MO_time)), ((aMO 11), .inl (cI, 2, .inl MO_rooms))]) [0, 1] rfl
  refine vp_callSi (va_runV (As := [.int x0, .int x1]) (rest := []) ⟨hx, hb, hml, hown, hts⟩ (c_X12_areRooms l D cI cB cL cZ cG MO x0 x1 aMO MO_taped MO_size MO_faultKind MO_faultPlace MO_at MO_end MO_token MO_number MO_name MO_bank MO_rb MO_codes MO_within MO_piled MO_unitsInRule MO_askThing MO_acts MO_undone MO_laid MO_heards MO_time MO_rooms b_MO_taped b_MO_size b_MO_faultKind b_MO_at b_MO_end b_MO_token b_MO_bank b_MO_rb b_MO_codes b_MO_within b_MO_piled b_MO_unitsInRule b_MO_askThing b_MO_acts b_MO_undone b_MO_laid b_MO_heards b_MO_time s_MO_rooms_0) (cwV 2 hts gX12_meet_X12_areRooms rfl rfl rfl (by decide +kernel) ⟨Nat.le_of_ble_eq_true rfl, Nat.le_of_ble_eq_true rfl⟩) ⟨xr_blind, va_recv hK hP (ci := 12) (q0 := 0) rfl rfl, fun U hU hW => xr_mk hU hW hPc hK⟩ rfl rfl hl.1 rfl (lv_room (Nat.le_of_ble_eq_true rfl)) dX12_meet_3 ⟨Nat.le_of_ble_eq_true rfl, Nat.le_of_ble_eq_true rfl⟩).run (fun r3 hr3 => ?_)
  clear hPc
  rcases hr3 with rfl | ⟨rfl, hr3_1_0, hr3_1_1⟩
  · refine lv_if_eq (tgt := 18) hx hb dX12_meet_6 (by decide) (fun _ => ?_) (fun c6 => absurd (by decide) c6)
    refine lv_iconst (v := (-1)) hx hb dX12_meet_18 (by decide) ?_
    exact up _ _ _ (W.iret (v := (-1)) hx hb hr (fun t ht hW => ⟨(-1), rfl, (zB_w (show zB (-1) (-1) (-1) from ⟨by decide, by decide⟩) (by decide) (by decide)), ht⟩) (fun q hq => by cases hq) dX12_meet_19)
  · refine lv_if_eq (tgt := 18) hx hb dX12_meet_6 (by decide) (fun c6 => absurd c6 (by decide)) (fun _ => ?_)
    refine lv_iload_n hx hb dX12_meet_9 rfl (lv_at hl 3 rfl) ?_
    refine lv_iconst (v := 0) hx hb dX12_meet_10 (by decide) ?_
    refine lv_iconst (v := 1) hx hb dX12_meet_11 (by decide) ?_
    have hPc := hP.sub (ws' := []) [] rfl
    refine vp_callSi (va_runS (As := [.int x2, .int 0, .int 1]) (rest := []) ⟨hx, hb, hml, hown, hts⟩ (c_X12_isIn l D cI cB cL cZ cG x2 0 1) (va_cwS 3 hts gX12_meet_X12_isIn rfl rfl rfl (by decide +kernel) ⟨Nat.le_of_ble_eq_true rfl, Nat.le_of_ble_eq_true rfl⟩) ⟨xr_blind, fun U hU hW => xr_mk hU hW hPc hK⟩ rfl rfl hl.1 rfl (lv_room (Nat.le_of_ble_eq_true rfl)) dX12_meet_12 ⟨Nat.le_of_ble_eq_true rfl, Nat.le_of_ble_eq_true rfl⟩).run (fun r12 hr12 => ?_)
    clear hPc
    rcases hr12 with rfl | ⟨rfl, hr12_1_0, hr12_1_1⟩
    · refine lv_if_ne (tgt := 20) hx hb dX12_meet_15 (by decide) (fun c15 => absurd (by decide) c15) (fun _ => ?_)
      refine lv_iconst (v := (-1)) hx hb dX12_meet_18 (by decide) ?_
      exact up _ _ _ (W.iret (v := (-1)) hx hb hr (fun t ht hW => ⟨(-1), rfl, (zB_w (show zB (-1) (-1) (-1) from ⟨by decide, by decide⟩) (by decide) (by decide)), ht⟩) (fun q hq => by cases hq) dX12_meet_19)
    · have by15r0_x2 : zB x2 0 2147483647 := zB_lev hr12_1_0 (show zB 0 0 0 from ⟨by decide, by decide⟩) (zB_top x2) (by decide)
      have bx15r1_x2 : zB x2 0 1 := zB_leu hr12_1_1 by15r0_x2 (show zB 1 1 1 from ⟨by decide, by decide⟩) (by decide)
      refine lv_if_ne (tgt := 20) hx hb dX12_meet_15 (by decide) (fun _ => ?_) (fun c15 => absurd c15 (by decide))
      refine lv_iconst (v := (-1)) hx hb dX12_meet_20 (by decide) ?_
      refine lv_istore (lv' := [(4, .int (-1)), (0, .ref MO), (1, .int x0), (2, .int x1), (3, .int x2)]) hx hb dX12_meet_21 hl (by decide) rfl (fun ls hl => ?_)
      refine lv_sipush (v := 10000) hx hb dX12_meet_23 (by decide) ?_
      refine lv_istore (lv' := [(5, .int 10000), (4, .int (-1)), (0, .ref MO), (1, .int x0), (2, .int x1), (3, .int x2)]) hx hb dX12_meet_26 hl (by decide) rfl (fun ls hl => ?_)
      refine lv_iconst (v := 0) hx hb dX12_meet_28 (by decide) ?_
      have j31 : ∀ (n31 : Nat) (ls : Array Slot) (v31_6 : Int32) (v31_5 : Int32) (v31_4 : Int32), zB v31_6 0 8 → zB v31_5 0 10000 → zB v31_4 (-1) 7 → zA MO_rooms 0 2 0 8 → zA MO_table 0 64 0 10000 → (8 + 1 - v31_6.toInt) ≤ (n31 : Int) → lv_has ls 8 [(6, .int v31_6), (5, .int v31_5), (4, .int v31_4), (0, .ref MO), (1, .int x0), (2, .int x1), (3, .int x2)] → W p l e ({ frames := 3, cells := 0, slots := 0, locals := 65 } : Room) s m ([.ref MO, .int x0, .int x1, .int x2] : List Value).toArray below meth c s.heap [] 0 0 Q (F0 m 31 ls []) := by
        intro n31
        induction n31 with
        | zero => intro ls v31_6 v31_5 v31_4 bv31_6_k31 bv31_5_k31 bv31_4_k31 sMO_rooms_0_k31 sMO_table_0_k31 hm31 hl; exact zM_u0 bv31_6_k31 hm31
        | succ n31 ih31 =>
          intro ls v31_6 v31_5 v31_4 bv31_6_k31 bv31_5_k31 bv31_4_k31 sMO_rooms_0_k31 sMO_table_0_k31 hm31 hl
          refine lv_iload hx hb dX12_meet_31 (lv_at hl 0 rfl) ?_
          refine lv_aload_n hx hb dX12_meet_33 rfl (lv_at hl 3 rfl) ?_
          have hPc := hP.sub (ws' := [(MO, .inr (12, oX12 aMO MO_taped MO_size MO_faultKind MO_faultPlace MO_at MO_end MO_token MO_number MO_name MO_bank MO_rb MO_codes MO_within MO_piled MO_unitsInRule MO_askThing MO_acts MO_undone MO_laid MO_heards MO_time)), ((aMO 11), .inl (cI, 2, .inl MO_rooms))]) [0, 1] rfl
          refine vp_callSi (va_runV (As := []) (rest := [.int v31_6]) ⟨hx, hb, hml, hown, hts⟩ (c_X12_places l D cI cB cL cZ cG MO aMO MO_taped MO_size MO_faultKind MO_faultPlace MO_at MO_end MO_token MO_number MO_name MO_bank MO_rb MO_codes MO_within MO_piled MO_unitsInRule MO_askThing MO_acts MO_undone MO_laid MO_heards MO_time MO_rooms b_MO_taped b_MO_size b_MO_faultKind b_MO_at b_MO_end b_MO_token b_MO_bank b_MO_rb b_MO_codes b_MO_within b_MO_piled b_MO_unitsInRule b_MO_askThing b_MO_acts b_MO_undone b_MO_laid b_MO_heards b_MO_time sMO_rooms_0_k31) (cwV 0 hts gX12_meet_X12_places rfl rfl rfl (by decide +kernel) ⟨Nat.le_of_ble_eq_true rfl, Nat.le_of_ble_eq_true rfl⟩) ⟨xr_blind, va_recv hK hP (ci := 12) (q0 := 0) rfl rfl, fun U hU hW => xr_mk hU hW hPc hK⟩ rfl rfl hl.1 rfl (lv_room (Nat.le_of_ble_eq_true rfl)) dX12_meet_34 ⟨Nat.le_of_ble_eq_true rfl, Nat.le_of_ble_eq_true rfl⟩).run (fun r34 hr34 => ?_)
          obtain ⟨hr34, p34_v⟩ := hr34
          clear hPc
          refine lv_icmp_ge (tgt := 100) hx hb dX12_meet_37 (by decide) (fun c37 => ?_) (fun c37 => ?_)
          · refine lv_iload hx hb dX12_meet_100 (lv_at hl 2 rfl) ?_
            refine lv_if_ge (tgt := 109) hx hb dX12_meet_102 (by decide) (fun c102 => ?_) (fun c102 => ?_)
            · have by102t_v31_4 : zB v31_4 0 7 := zB_lev (ze c102) (show zB 0 0 0 from ⟨by decide, by decide⟩) bv31_4_k31 (by decide)
              refine lv_iload_n hx hb dX12_meet_109 rfl (lv_at hl 6 rfl) ?_
              refine lv_if_ne (tgt := 118) hx hb dX12_meet_110 (by decide) (fun c110 => ?_) (fun c110 => ?_)
              · have bn110t_x2 : zB x2 1 1 := zB_neL c110 bx15r1_x2 (show zB 0 0 0 from ⟨by decide, by decide⟩) (by decide)
                refine lv_iload hx hb dX12_meet_118 (lv_at hl 2 rfl) ?_
                exact up _ _ _ (W.iret (v := v31_4) hx hb hr (fun t ht hW => ⟨v31_4, rfl, (zB_w by102t_v31_4 (by decide) (by decide)), ht⟩) (fun q hq => by cases hq) dX12_meet_120)
              · have be110f_x2 : zB x2 0 0 := zB_eq c110 bx15r1_x2 (show zB 0 0 0 from ⟨by decide, by decide⟩) (by decide) (by decide)
                refine lv_iload hx hb dX12_meet_113 (lv_at hl 1 rfl) ?_
                refine lv_goto (tgt := 120) hx hb dX12_meet_115 (by decide) ?_
                exact up _ _ _ (W.iret (v := v31_5) hx hb hr (fun t ht hW => ⟨v31_5, rfl, (zB_w bv31_5_k31 (by decide) (by decide)), ht⟩) (fun q hq => by cases hq) dX12_meet_120)
            · have bx102f_v31_4 : zB v31_4 (-1) (-1) := zB_ltu (zf c102) bv31_4_k31 (show zB 0 0 0 from ⟨by decide, by decide⟩) (by decide)
              refine lv_iconst (v := (-1)) hx hb dX12_meet_105 (by decide) ?_
              refine lv_goto (tgt := 120) hx hb dX12_meet_106 (by decide) ?_
              exact up _ _ _ (W.iret (v := (-1)) hx hb hr (fun t ht hW => ⟨(-1), rfl, (zB_w (show zB (-1) (-1) (-1) from ⟨by decide, by decide⟩) (by decide) (by decide)), ht⟩) (fun q hq => by cases hq) dX12_meet_120)
          · have bx37f_v31_6 : zB v31_6 0 7 := zB_ltu (zf c37) bv31_6_k31 hr34 (by decide)
            have by37f_r34 : zB r34 1 8 := zB_ltv (zf c37) bx37f_v31_6 hr34 (by decide)
            refine lv_aload_n hx hb dX12_meet_40 rfl (lv_at hl 3 rfl) ?_
            refine lv_iload_n hx hb dX12_meet_41 rfl (lv_at hl 4 rfl) ?_
            refine lv_iload hx hb dX12_meet_42 (lv_at hl 0 rfl) ?_
            have hPc := hP.sub (ws' := [(MO, .inr (12, oX12 aMO MO_taped MO_size MO_faultKind MO_faultPlace MO_at MO_end MO_token MO_number MO_name MO_bank MO_rb MO_codes MO_within MO_piled MO_unitsInRule MO_askThing MO_acts MO_undone MO_laid MO_heards MO_time)), ((aMO 43), .inl (cI, 64, .inl MO_table))]) [0, 2] rfl
            refine vp_callSi (va_runV (As := [.int x0, .int v31_6]) (rest := []) ⟨hx, hb, hml, hown, hts⟩ (c_X12_farOf l D cI cB cL cZ cG MO x0 v31_6 aMO MO_taped MO_size MO_faultKind MO_faultPlace MO_at MO_end MO_token MO_number MO_name MO_bank MO_rb MO_codes MO_within MO_piled MO_unitsInRule MO_askThing MO_acts MO_undone MO_laid MO_heards MO_time MO_table hr3_1_0 bx37f_v31_6 b_MO_taped b_MO_size b_MO_faultKind b_MO_at b_MO_end b_MO_token b_MO_bank b_MO_rb b_MO_codes b_MO_within b_MO_piled b_MO_unitsInRule b_MO_askThing b_MO_acts b_MO_undone b_MO_laid b_MO_heards b_MO_time sMO_table_0_k31) (cwV 2 hts gX12_meet_X12_farOf rfl rfl rfl (by decide +kernel) ⟨Nat.le_of_ble_eq_true rfl, Nat.le_of_ble_eq_true rfl⟩) ⟨xr_blind, va_recv hK hP (ci := 12) (q0 := 0) rfl rfl, fun U hU hW => xr_mk hU hW hPc hK⟩ rfl rfl hl.1 rfl (lv_room (Nat.le_of_ble_eq_true rfl)) dX12_meet_44 ⟨Nat.le_of_ble_eq_true rfl, Nat.le_of_ble_eq_true rfl⟩).run (fun r44 hr44 => ?_)
            clear hPc
            refine lv_aload_n hx hb dX12_meet_47 rfl (lv_at hl 3 rfl) ?_
            refine lv_iload_n hx hb dX12_meet_48 rfl (lv_at hl 5 rfl) ?_
            refine lv_iload hx hb dX12_meet_49 (lv_at hl 0 rfl) ?_
            have hPc := hP.sub (ws' := [(MO, .inr (12, oX12 aMO MO_taped MO_size MO_faultKind MO_faultPlace MO_at MO_end MO_token MO_number MO_name MO_bank MO_rb MO_codes MO_within MO_piled MO_unitsInRule MO_askThing MO_acts MO_undone MO_laid MO_heards MO_time)), ((aMO 43), .inl (cI, 64, .inl MO_table))]) [0, 2] rfl
            refine vp_callSi (va_runV (As := [.int x1, .int v31_6]) (rest := [.int r44]) ⟨hx, hb, hml, hown, hts⟩ (c_X12_farOf l D cI cB cL cZ cG MO x1 v31_6 aMO MO_taped MO_size MO_faultKind MO_faultPlace MO_at MO_end MO_token MO_number MO_name MO_bank MO_rb MO_codes MO_within MO_piled MO_unitsInRule MO_askThing MO_acts MO_undone MO_laid MO_heards MO_time MO_table hr3_1_1 bx37f_v31_6 b_MO_taped b_MO_size b_MO_faultKind b_MO_at b_MO_end b_MO_token b_MO_bank b_MO_rb b_MO_codes b_MO_within b_MO_piled b_MO_unitsInRule b_MO_askThing b_MO_acts b_MO_undone b_MO_laid b_MO_heards b_MO_time sMO_table_0_k31) (cwV 2 hts gX12_meet_X12_farOf rfl rfl rfl (by decide +kernel) ⟨Nat.le_of_ble_eq_true rfl, Nat.le_of_ble_eq_true rfl⟩) ⟨xr_blind, va_recv hK hP (ci := 12) (q0 := 0) rfl rfl, fun U hU hW => xr_mk hU hW hPc hK⟩ rfl rfl hl.1 rfl (lv_room (Nat.le_of_ble_eq_true rfl)) dX12_meet_51 ⟨Nat.le_of_ble_eq_true rfl, Nat.le_of_ble_eq_true rfl⟩).run (fun r51 hr51 => ?_)
            clear hPc
            have j74 : ∀ (ls : Array Slot) (u74_0 : Int32), zB u74_0 0 10000 → zA MO_rooms 0 2 0 8 → zA MO_table 0 64 0 10000 → lv_has ls 8 [(6, .int v31_6), (5, .int v31_5), (4, .int v31_4), (0, .ref MO), (1, .int x0), (2, .int x1), (3, .int x2)] → W p l e ({ frames := 3, cells := 0, slots := 0, locals := 65 } : Room) s m ([.ref MO, .int x0, .int x1, .int x2] : List Value).toArray below meth c s.heap [] 0 0 Q (F0 m 74 ls [.int u74_0]) := by
              intro ls u74_0 bu74_0_k74 sMO_rooms_0_k74 sMO_table_0_k74 hl
              refine lv_istore (lv' := [(7, .int u74_0), (6, .int v31_6), (5, .int v31_5), (4, .int v31_4), (0, .ref MO), (1, .int x0), (2, .int x1), (3, .int x2)]) hx hb dX12_meet_74 hl (by decide) rfl (fun ls hl => ?_)
              refine lv_iload hx hb dX12_meet_76 (lv_at hl 0 rfl) ?_
              refine lv_iload hx hb dX12_meet_78 (lv_at hl 2 rfl) ?_
              have j94 : ∀ (ls : Array Slot) (v94_5 : Int32) (v94_4 : Int32), zB v94_5 0 10000 → zB v94_4 (-1) 7 → zA MO_rooms 0 2 0 8 → zA MO_table 0 64 0 10000 → lv_has ls 8 [(5, .int v94_5), (4, .int v94_4), (7, .int u74_0), (6, .int v31_6), (0, .ref MO), (1, .int x0), (2, .int x1), (3, .int x2)] → W p l e ({ frames := 3, cells := 0, slots := 0, locals := 65 } : Room) s m ([.ref MO, .int x0, .int x1, .int x2] : List Value).toArray below meth c s.heap [] 0 0 Q (F0 m 94 ls []) := by
                intro ls v94_5 v94_4 bv94_5_k94 bv94_4_k94 sMO_rooms_0_k94 sMO_table_0_k94 hl
                obtain ⟨y94, by94, ry94, ey94⟩ := zi_inc (x := v31_6) (k := 1) (a := 1) (b := 8) bx37f_v31_6 (by decide) (by decide) (by decide) (by decide) (by decide)
                refine lv_iinc (v := y94) (lv' := [(6, .int y94), (5, .int v94_5), (4, .int v94_4), (7, .int u74_0), (0, .ref MO), (1, .int x0), (2, .int x1), (3, .int x2)]) hx hb dX12_meet_94 hl (k := 3) rfl ey94 (by decide) rfl (fun ls hl => ?_)
                refine lv_goto (tgt := 31) hx hb dX12_meet_97 (by decide) ?_
                exact ih31 ls y94 v94_5 v94_4 (zB_w by94 (by decide) (by decide)) bv94_5_k94 bv94_4_k94 sMO_rooms_0_k94 sMO_table_0_k94 (zM_us (k := 1) hm31 ry94 (by decide)) (lv_sub hl [0, 1, 2, 4, 5, 6, 7] rfl)
              refine lv_icmp_lt (tgt := 86) hx hb dX12_meet_80 (by decide) (fun c80 => ?_) (fun c80 => ?_)
              · have bx80t_u74_0 : zB u74_0 0 9999 := zB_ltu (zl c80) bu74_0_k74 bv31_5_k31 (by decide)
                have by80t_v31_5 : zB v31_5 1 10000 := zB_ltv (zl c80) bx80t_u74_0 bv31_5_k31 (by decide)
                refine lv_iload hx hb dX12_meet_86 (lv_at hl 1 rfl) ?_
                refine lv_istore (lv' := [(4, .int v31_6), (7, .int u74_0), (6, .int v31_6), (5, .int v31_5), (0, .ref MO), (1, .int x0), (2, .int x1), (3, .int x2)]) hx hb dX12_meet_88 hl (by decide) rfl (fun ls hl => ?_)
                refine lv_iload hx hb dX12_meet_90 (lv_at hl 1 rfl) ?_
                refine lv_istore (lv' := [(5, .int u74_0), (4, .int v31_6), (7, .int u74_0), (6, .int v31_6), (0, .ref MO), (1, .int x0), (2, .int x1), (3, .int x2)]) hx hb dX12_meet_92 hl (by decide) rfl (fun ls hl => ?_)
                exact j94 ls u74_0 v31_6 (zB_w bx80t_u74_0 (by decide) (by decide)) (zB_w bx37f_v31_6 (by decide) (by decide)) sMO_rooms_0_k74 sMO_table_0_k74 (lv_sub hl [0, 1, 2, 3, 4, 5, 6, 7] rfl)
              · refine lv_goto (tgt := 94) hx hb dX12_meet_83 (by decide) ?_
                exact j94 ls v31_5 v31_4 bv31_5_k31 bv31_4_k31 sMO_rooms_0_k74 sMO_table_0_k74 (lv_sub hl [2, 3, 0, 1, 4, 5, 6, 7] rfl)
            refine lv_icmp_le (tgt := 67) hx hb dX12_meet_54 (by decide) (fun c54 => ?_) (fun c54 => ?_)
            · refine lv_aload_n hx hb dX12_meet_67 rfl (lv_at hl 3 rfl) ?_
              refine lv_iload_n hx hb dX12_meet_68 rfl (lv_at hl 5 rfl) ?_
              refine lv_iload hx hb dX12_meet_69 (lv_at hl 0 rfl) ?_
              have hPc := hP.sub (ws' := [(MO, .inr (12, oX12 aMO MO_taped MO_size MO_faultKind MO_faultPlace MO_at MO_end MO_token MO_number MO_name MO_bank MO_rb MO_codes MO_within MO_piled MO_unitsInRule MO_askThing MO_acts MO_undone MO_laid MO_heards MO_time)), ((aMO 43), .inl (cI, 64, .inl MO_table))]) [0, 2] rfl
              refine vp_callSi (va_runV (As := [.int x1, .int v31_6]) (rest := []) ⟨hx, hb, hml, hown, hts⟩ (c_X12_farOf l D cI cB cL cZ cG MO x1 v31_6 aMO MO_taped MO_size MO_faultKind MO_faultPlace MO_at MO_end MO_token MO_number MO_name MO_bank MO_rb MO_codes MO_within MO_piled MO_unitsInRule MO_askThing MO_acts MO_undone MO_laid MO_heards MO_time MO_table hr3_1_1 bx37f_v31_6 b_MO_taped b_MO_size b_MO_faultKind b_MO_at b_MO_end b_MO_token b_MO_bank b_MO_rb b_MO_codes b_MO_within b_MO_piled b_MO_unitsInRule b_MO_askThing b_MO_acts b_MO_undone b_MO_laid b_MO_heards b_MO_time sMO_table_0_k31) (cwV 2 hts gX12_meet_X12_farOf rfl rfl rfl (by decide +kernel) ⟨Nat.le_of_ble_eq_true rfl, Nat.le_of_ble_eq_true rfl⟩) ⟨xr_blind, va_recv hK hP (ci := 12) (q0 := 0) rfl rfl, fun U hU hW => xr_mk hU hW hPc hK⟩ rfl rfl hl.1 rfl (lv_room (Nat.le_of_ble_eq_true rfl)) dX12_meet_71 ⟨Nat.le_of_ble_eq_true rfl, Nat.le_of_ble_eq_true rfl⟩).run (fun r71 hr71 => ?_)
              clear hPc
              exact j74 ls r71 hr71 sMO_rooms_0_k31 sMO_table_0_k31 (lv_sub hl [0, 1, 2, 3, 4, 5, 6] rfl)
            · have bx54f_r51 : zB r51 0 9999 := zB_ltu (zf c54) hr51 hr44 (by decide)
              have by54f_r44 : zB r44 1 10000 := zB_ltv (zf c54) bx54f_r51 hr44 (by decide)
              refine lv_aload_n hx hb dX12_meet_57 rfl (lv_at hl 3 rfl) ?_
              refine lv_iload_n hx hb dX12_meet_58 rfl (lv_at hl 4 rfl) ?_
              refine lv_iload hx hb dX12_meet_59 (lv_at hl 0 rfl) ?_
              have hPc := hP.sub (ws' := [(MO, .inr (12, oX12 aMO MO_taped MO_size MO_faultKind MO_faultPlace MO_at MO_end MO_token MO_number MO_name MO_bank MO_rb MO_codes MO_within MO_piled MO_unitsInRule MO_askThing MO_acts MO_undone MO_laid MO_heards MO_time)), ((aMO 43), .inl (cI, 64, .inl MO_table))]) [0, 2] rfl
              refine vp_callSi (va_runV (As := [.int x0, .int v31_6]) (rest := []) ⟨hx, hb, hml, hown, hts⟩ (c_X12_farOf l D cI cB cL cZ cG MO x0 v31_6 aMO MO_taped MO_size MO_faultKind MO_faultPlace MO_at MO_end MO_token MO_number MO_name MO_bank MO_rb MO_codes MO_within MO_piled MO_unitsInRule MO_askThing MO_acts MO_undone MO_laid MO_heards MO_time MO_table hr3_1_0 bx37f_v31_6 b_MO_taped b_MO_size b_MO_faultKind b_MO_at b_MO_end b_MO_token b_MO_bank b_MO_rb b_MO_codes b_MO_within b_MO_piled b_MO_unitsInRule b_MO_askThing b_MO_acts b_MO_undone b_MO_laid b_MO_heards b_MO_time sMO_table_0_k31) (cwV 2 hts gX12_meet_X12_farOf rfl rfl rfl (by decide +kernel) ⟨Nat.le_of_ble_eq_true rfl, Nat.le_of_ble_eq_true rfl⟩) ⟨xr_blind, va_recv hK hP (ci := 12) (q0 := 0) rfl rfl, fun U hU hW => xr_mk hU hW hPc hK⟩ rfl rfl hl.1 rfl (lv_room (Nat.le_of_ble_eq_true rfl)) dX12_meet_61 ⟨Nat.le_of_ble_eq_true rfl, Nat.le_of_ble_eq_true rfl⟩).run (fun r61 hr61 => ?_)
              clear hPc
              refine lv_goto (tgt := 74) hx hb dX12_meet_64 (by decide) ?_
              exact j74 ls r61 hr61 sMO_rooms_0_k31 sMO_table_0_k31 (lv_sub hl [0, 1, 2, 3, 4, 5, 6] rfl)
      refine lv_istore (lv' := [(6, .int 0), (5, .int 10000), (4, .int (-1)), (0, .ref MO), (1, .int x0), (2, .int x1), (3, .int x2)]) hx hb dX12_meet_29 hl (by decide) rfl (fun ls hl => ?_)
      exact j31 9 ls 0 10000 (-1) (zB_w (show zB 0 0 0 from ⟨by decide, by decide⟩) (by decide) (by decide)) (zB_w (show zB 10000 10000 10000 from ⟨by decide, by decide⟩) (by decide) (by decide)) (zB_w (show zB (-1) (-1) (-1) from ⟨by decide, by decide⟩) (by decide) (by decide)) s_MO_rooms_0 s_MO_table_0 (zM_ui (show zB 0 0 0 from ⟨by decide, by decide⟩) (by decide)) (lv_sub hl [0, 1, 2, 3, 4, 5, 6] rfl)
set_option maxHeartbeats 4000000 in
set_option maxRecDepth 100000 in
theorem c_X12_farthest (l : Launch) (D : va_G) (cI : ClassId) (cB : ClassId) (cL : ClassId) (cZ : ClassId) (cG : ClassId) (MO : Nat) (x0 : Int32) (aMO : Nat → Nat) (MO_taped : Int32) (MO_size : Int32) (MO_faultKind : Int32) (MO_faultPlace : Int32) (MO_at : Int32) (MO_end : Int32) (MO_token : Int32) (MO_number : Int32) (MO_name : Int64) (MO_bank : Int32) (MO_rb : Int32) (MO_codes : Int32) (MO_within : Int32) (MO_piled : Int32) (MO_unitsInRule : Int32) (MO_askThing : Int32) (MO_acts : Int32) (MO_undone : Int32) (MO_laid : Int32) (MO_heards : Int32) (MO_time : Int32) (MO_rooms : Nat → Int32) (MO_table : Nat → Int32) (b_x0 : zB x0 0 7) (b_MO_taped : zB MO_taped 0 1600) (b_MO_size : zB MO_size 0 1600) (b_MO_faultKind : zB MO_faultKind 0 5) (b_MO_at : zB MO_at 0 1600) (b_MO_end : zB MO_end 0 1600) (b_MO_token : zB MO_token 0 5) (b_MO_bank : zB MO_bank 0 1) (b_MO_rb : zB MO_rb 0 1) (b_MO_codes : zB MO_codes 0 1120) (b_MO_within : zB MO_within 0 7) (b_MO_piled : zB MO_piled 0 89) (b_MO_unitsInRule : zB MO_unitsInRule 0 30) (b_MO_askThing : zB MO_askThing 0 5) (b_MO_acts : zB MO_acts 0 40) (b_MO_undone : zB MO_undone 0 40) (b_MO_laid : zB MO_laid 0 8) (b_MO_heards : zB MO_heards 0 30) (b_MO_time : zB MO_time 0 100000) (s_MO_rooms_0 : zA MO_rooms 0 2 0 8) (s_MO_table_0 : zA MO_table 0 64 0 10000) : Met l yX12_farthest wsX12_farthest ({ frames := 1, cells := 0, slots := 0, locals := 22 }) (xr D [(cI, .int), (cB, .byte), (cL, .long), (cZ, .boolean), (cG, .array .int)] [(MO, .inr (12, oX12 aMO MO_taped MO_size MO_faultKind MO_faultPlace MO_at MO_end MO_token MO_number MO_name MO_bank MO_rb MO_codes MO_within MO_piled MO_unitsInRule MO_askThing MO_acts MO_undone MO_laid MO_heards MO_time)), ((aMO 11), .inl (cI, 2, .inl MO_rooms)), ((aMO 43), .inl (cI, 64, .inl MO_table))] [.ref MO, .int x0]) (vp_Si (fun r => zB r 0 10000)) 0 0 (fun _ => False) := by
  refine Met.ofW (cc := cX12_farthest) (maxL := 4) (ret := (some .int)) (by decide) rfl ?_
  intro p e s m args below meth c s₁ B hml hv
  obtain ⟨rfl, hP, hK⟩ := hv
  have hx := B.exec
  have hb := B.bytes
  have hr := B.returns
  have hts := atoms_spec (ws := wsX12_farthest) B.pre
  have hown : s.vm.findClass RX12 = some m.cls := findClass_of_methodNamed B.named
  have hlocks := B.notSynchronized
  clear B
  have hl := lv_entry ([.ref MO, .int x0]) (n := 4) (Nat.le_of_ble_eq_true rfl)
  rw [lg_entry_eq]
  generalize (lg_sl ([.ref MO, .int x0]) ++ List.replicate (4 - (lg_sl ([.ref MO, .int x0])).length) Slot.unset).toArray = ls at hl ⊢
  replace hl : lv_has ls 4 [(0, .ref MO), (1, .int x0)] := hl
  refine zz_abs (R := ({ frames := 1, cells := 0, slots := 0, locals := 22 } : Room)) (fun Q up => ?_)
  refine lv_iconst (v := 0) hx hb dX12_farthest_0 (by decide) ?_
  refine lv_istore_n (lv' := [(2, .int 0), (0, .ref MO), (1, .int x0)]) hx hb dX12_farthest_1 rfl hl (by decide) rfl (fun ls hl => ?_)
  refine lv_iconst (v := 0) hx hb dX12_farthest_2 (by decide) ?_
  have j4 : ∀ (n4 : Nat) (ls : Array Slot) (v4_3 : Int32) (v4_2 : Int32), zB v4_3 0 8 → zB v4_2 0 10000 → zA MO_rooms 0 2 0 8 → zA MO_table 0 64 0 10000 → (8 + 1 - v4_3.toInt) ≤ (n4 : Int) → lv_has ls 4 [(3, .int v4_3), (2, .int v4_2), (0, .ref MO), (1, .int x0)] → W p l e ({ frames := 1, cells := 0, slots := 0, locals := 22 } : Room) s m ([.ref MO, .int x0] : List Value).toArray below meth c s.heap [] 0 0 Q (F0 m 4 ls []) := by
    intro n4
    induction n4 with
    | zero => intro ls v4_3 v4_2 bv4_3_k4 bv4_2_k4 sMO_rooms_0_k4 sMO_table_0_k4 hm4 hl; exact zM_u0 bv4_3_k4 hm4
    | succ n4 ih4 =>
      intro ls v4_3 v4_2 bv4_3_k4 bv4_2_k4 sMO_rooms_0_k4 sMO_table_0_k4 hm4 hl
      refine lv_iload_n hx hb dX12_farthest_4 rfl (lv_at hl 0 rfl) ?_
      refine lv_aload_n hx hb dX12_farthest_5 rfl (lv_at hl 2 rfl) ?_
      have hPc := hP.sub (ws' := [(MO, .inr (12, oX12 aMO MO_taped MO_size MO_faultKind MO_faultPlace MO_at MO_end MO_token MO_number MO_name MO_bank MO_rb MO_codes MO_within MO_piled MO_unitsInRule MO_askThing MO_acts MO_undone MO_laid MO_heards MO_time)), ((aMO 11), .inl (cI, 2, .inl MO_rooms))]) [0, 1] rfl
      refine vp_callSi (va_runV (As := []) (rest := [.int v4_3]) ⟨hx, hb, hml, hown, hts⟩ (c_X12_places l D cI cB cL cZ cG MO aMO MO_taped MO_size MO_faultKind MO_faultPlace MO_at MO_end MO_token MO_number MO_name MO_bank MO_rb MO_codes MO_within MO_piled MO_unitsInRule MO_askThing MO_acts MO_undone MO_laid MO_heards MO_time MO_rooms b_MO_taped b_MO_size b_MO_faultKind b_MO_at b_MO_end b_MO_token b_MO_bank b_MO_rb b_MO_codes b_MO_within b_MO_piled b_MO_unitsInRule b_MO_askThing b_MO_acts b_MO_undone b_MO_laid b_MO_heards b_MO_time sMO_rooms_0_k4) (cwV 0 hts gX12_farthest_X12_places rfl rfl rfl (by decide +kernel) ⟨Nat.le_of_ble_eq_true rfl, Nat.le_of_ble_eq_true rfl⟩) ⟨xr_blind, va_recv hK hP (ci := 12) (q0 := 0) rfl rfl, fun U hU hW => xr_mk hU hW hPc hK⟩ rfl rfl hl.1 rfl (lv_room (Nat.le_of_ble_eq_true rfl)) dX12_farthest_6 ⟨Nat.le_of_ble_eq_true rfl, Nat.le_of_ble_eq_true rfl⟩).run (fun r6 hr6 => ?_)
      obtain ⟨hr6, p6_v⟩ := hr6
      clear hPc
      refine lv_icmp_ge (tgt := 47) hx hb dX12_farthest_9 (by decide) (fun c9 => ?_) (fun c9 => ?_)
      · refine lv_iload_n hx hb dX12_farthest_47 rfl (lv_at hl 1 rfl) ?_
        exact up _ _ _ (W.iret (v := v4_2) hx hb hr (fun t ht hW => ⟨v4_2, rfl, bv4_2_k4, ht⟩) (fun q hq => by cases hq) dX12_farthest_48)
      · have bx9f_v4_3 : zB v4_3 0 7 := zB_ltu (zf c9) bv4_3_k4 hr6 (by decide)
        have by9f_r6 : zB r6 1 8 := zB_ltv (zf c9) bx9f_v4_3 hr6 (by decide)
        refine lv_aload_n hx hb dX12_farthest_12 rfl (lv_at hl 2 rfl) ?_
        refine lv_iload_n hx hb dX12_farthest_13 rfl (lv_at hl 3 rfl) ?_
        refine lv_iload_n hx hb dX12_farthest_14 rfl (lv_at hl 0 rfl) ?_
        have hPc := hP.sub (ws' := [(MO, .inr (12, oX12 aMO MO_taped MO_size MO_faultKind MO_faultPlace MO_at MO_end MO_token MO_number MO_name MO_bank MO_rb MO_codes MO_within MO_piled MO_unitsInRule MO_askThing MO_acts MO_undone MO_laid MO_heards MO_time)), ((aMO 43), .inl (cI, 64, .inl MO_table))]) [0, 2] rfl
        refine vp_callSi (va_runV (As := [.int x0, .int v4_3]) (rest := []) ⟨hx, hb, hml, hown, hts⟩ (c_X12_farOf l D cI cB cL cZ cG MO x0 v4_3 aMO MO_taped MO_size MO_faultKind MO_faultPlace MO_at MO_end MO_token MO_number MO_name MO_bank MO_rb MO_codes MO_within MO_piled MO_unitsInRule MO_askThing MO_acts MO_undone MO_laid MO_heards MO_time MO_table b_x0 bx9f_v4_3 b_MO_taped b_MO_size b_MO_faultKind b_MO_at b_MO_end b_MO_token b_MO_bank b_MO_rb b_MO_codes b_MO_within b_MO_piled b_MO_unitsInRule b_MO_askThing b_MO_acts b_MO_undone b_MO_laid b_MO_heards b_MO_time sMO_table_0_k4) (cwV 2 hts gX12_farthest_X12_farOf rfl rfl rfl (by decide +kernel) ⟨Nat.le_of_ble_eq_true rfl, Nat.le_of_ble_eq_true rfl⟩) ⟨xr_blind, va_recv hK hP (ci := 12) (q0 := 0) rfl rfl, fun U hU hW => xr_mk hU hW hPc hK⟩ rfl rfl hl.1 rfl (lv_room (Nat.le_of_ble_eq_true rfl)) dX12_farthest_15 ⟨Nat.le_of_ble_eq_true rfl, Nat.le_of_ble_eq_true rfl⟩).run (fun r15 hr15 => ?_)
        clear hPc
        refine lv_sipush (v := 10000) hx hb dX12_farthest_18 (by decide) ?_
        have j41 : ∀ (ls : Array Slot) (v41_2 : Int32), zB v41_2 0 10000 → zA MO_rooms 0 2 0 8 → zA MO_table 0 64 0 10000 → lv_has ls 4 [(3, .int v4_3), (2, .int v41_2), (0, .ref MO), (1, .int x0)] → W p l e ({ frames := 1, cells := 0, slots := 0, locals := 22 } : Room) s m ([.ref MO, .int x0] : List Value).toArray below meth c s.heap [] 0 0 Q (F0 m 41 ls []) := by
          intro ls v41_2 bv41_2_k41 sMO_rooms_0_k41 sMO_table_0_k41 hl
          obtain ⟨y41, by41, ry41, ey41⟩ := zi_inc (x := v4_3) (k := 1) (a := 1) (b := 8) bx9f_v4_3 (by decide) (by decide) (by decide) (by decide) (by decide)
          refine lv_iinc (v := y41) (lv' := [(3, .int y41), (2, .int v41_2), (0, .ref MO), (1, .int x0)]) hx hb dX12_farthest_41 hl (k := 0) rfl ey41 (by decide) rfl (fun ls hl => ?_)
          refine lv_goto (tgt := 4) hx hb dX12_farthest_44 (by decide) ?_
          exact ih4 ls y41 v41_2 (zB_w by41 (by decide) (by decide)) bv41_2_k41 sMO_rooms_0_k41 sMO_table_0_k41 (zM_us (k := 1) hm4 ry41 (by decide)) (lv_sub hl [0, 1, 2, 3] rfl)
        refine lv_icmp_ge (tgt := 41) hx hb dX12_farthest_21 (by decide) (fun c21 => ?_) (fun c21 => ?_)
        · have by21t_r15 : zB r15 10000 10000 := zB_lev (ze c21) (show zB 10000 10000 10000 from ⟨by decide, by decide⟩) hr15 (by decide)
          exact j41 ls v4_2 bv4_2_k4 sMO_rooms_0_k4 sMO_table_0_k4 (lv_sub hl [0, 1, 2, 3] rfl)
        · have bx21f_r15 : zB r15 0 9999 := zB_ltu (zf c21) hr15 (show zB 10000 10000 10000 from ⟨by decide, by decide⟩) (by decide)
          refine lv_aload_n hx hb dX12_farthest_24 rfl (lv_at hl 2 rfl) ?_
          refine lv_iload_n hx hb dX12_farthest_25 rfl (lv_at hl 3 rfl) ?_
          refine lv_iload_n hx hb dX12_farthest_26 rfl (lv_at hl 0 rfl) ?_
          have hPc := hP.sub (ws' := [(MO, .inr (12, oX12 aMO MO_taped MO_size MO_faultKind MO_faultPlace MO_at MO_end MO_token MO_number MO_name MO_bank MO_rb MO_codes MO_within MO_piled MO_unitsInRule MO_askThing MO_acts MO_undone MO_laid MO_heards MO_time)), ((aMO 43), .inl (cI, 64, .inl MO_table))]) [0, 2] rfl
          refine vp_callSi (va_runV (As := [.int x0, .int v4_3]) (rest := []) ⟨hx, hb, hml, hown, hts⟩ (c_X12_farOf l D cI cB cL cZ cG MO x0 v4_3 aMO MO_taped MO_size MO_faultKind MO_faultPlace MO_at MO_end MO_token MO_number MO_name MO_bank MO_rb MO_codes MO_within MO_piled MO_unitsInRule MO_askThing MO_acts MO_undone MO_laid MO_heards MO_time MO_table b_x0 bx9f_v4_3 b_MO_taped b_MO_size b_MO_faultKind b_MO_at b_MO_end b_MO_token b_MO_bank b_MO_rb b_MO_codes b_MO_within b_MO_piled b_MO_unitsInRule b_MO_askThing b_MO_acts b_MO_undone b_MO_laid b_MO_heards b_MO_time sMO_table_0_k4) (cwV 2 hts gX12_farthest_X12_farOf rfl rfl rfl (by decide +kernel) ⟨Nat.le_of_ble_eq_true rfl, Nat.le_of_ble_eq_true rfl⟩) ⟨xr_blind, va_recv hK hP (ci := 12) (q0 := 0) rfl rfl, fun U hU hW => xr_mk hU hW hPc hK⟩ rfl rfl hl.1 rfl (lv_room (Nat.le_of_ble_eq_true rfl)) dX12_farthest_27 ⟨Nat.le_of_ble_eq_true rfl, Nat.le_of_ble_eq_true rfl⟩).run (fun r27 hr27 => ?_)
          clear hPc
          refine lv_iload_n hx hb dX12_farthest_30 rfl (lv_at hl 1 rfl) ?_
          refine lv_icmp_le (tgt := 41) hx hb dX12_farthest_31 (by decide) (fun c31 => ?_) (fun c31 => ?_)
          · exact j41 ls v4_2 bv4_2_k4 sMO_rooms_0_k4 sMO_table_0_k4 (lv_sub hl [0, 1, 2, 3] rfl)
          · have bx31f_v4_2 : zB v4_2 0 9999 := zB_ltu (zf c31) bv4_2_k4 hr27 (by decide)
            have by31f_r27 : zB r27 1 10000 := zB_ltv (zf c31) bx31f_v4_2 hr27 (by decide)
            refine lv_aload_n hx hb dX12_farthest_34 rfl (lv_at hl 2 rfl) ?_
            refine lv_iload_n hx hb dX12_farthest_35 rfl (lv_at hl 3 rfl) ?_
            refine lv_iload_n hx hb dX12_farthest_36 rfl (lv_at hl 0 rfl) ?_
            have hPc := hP.sub (ws' := [(MO, .inr (12, oX12 aMO MO_taped MO_size MO_faultKind MO_faultPlace MO_at MO_end MO_token MO_number MO_name MO_bank MO_rb MO_codes MO_within MO_piled MO_unitsInRule MO_askThing MO_acts MO_undone MO_laid MO_heards MO_time)), ((aMO 43), .inl (cI, 64, .inl MO_table))]) [0, 2] rfl
            refine vp_callSi (va_runV (As := [.int x0, .int v4_3]) (rest := []) ⟨hx, hb, hml, hown, hts⟩ (c_X12_farOf l D cI cB cL cZ cG MO x0 v4_3 aMO MO_taped MO_size MO_faultKind MO_faultPlace MO_at MO_end MO_token MO_number MO_name MO_bank MO_rb MO_codes MO_within MO_piled MO_unitsInRule MO_askThing MO_acts MO_undone MO_laid MO_heards MO_time MO_table b_x0 bx9f_v4_3 b_MO_taped b_MO_size b_MO_faultKind b_MO_at b_MO_end b_MO_token b_MO_bank b_MO_rb b_MO_codes b_MO_within b_MO_piled b_MO_unitsInRule b_MO_askThing b_MO_acts b_MO_undone b_MO_laid b_MO_heards b_MO_time sMO_table_0_k4) (cwV 2 hts gX12_farthest_X12_farOf rfl rfl rfl (by decide +kernel) ⟨Nat.le_of_ble_eq_true rfl, Nat.le_of_ble_eq_true rfl⟩) ⟨xr_blind, va_recv hK hP (ci := 12) (q0 := 0) rfl rfl, fun U hU hW => xr_mk hU hW hPc hK⟩ rfl rfl hl.1 rfl (lv_room (Nat.le_of_ble_eq_true rfl)) dX12_farthest_37 ⟨Nat.le_of_ble_eq_true rfl, Nat.le_of_ble_eq_true rfl⟩).run (fun r37 hr37 => ?_)
            clear hPc
            refine lv_istore_n (lv' := [(2, .int r37), (3, .int v4_3), (0, .ref MO), (1, .int x0)]) hx hb dX12_farthest_40 rfl hl (by decide) rfl (fun ls hl => ?_)
            exact j41 ls r37 hr37 sMO_rooms_0_k4 sMO_table_0_k4 (lv_sub hl [1, 0, 2, 3] rfl)
  refine lv_istore_n (lv' := [(3, .int 0), (2, .int 0), (0, .ref MO), (1, .int x0)]) hx hb dX12_farthest_3 rfl hl (by decide) rfl (fun ls hl => ?_)
  exact j4 9 ls 0 0 (zB_w (show zB 0 0 0 from ⟨by decide, by decide⟩) (by decide) (by decide)) (zB_w (show zB 0 0 0 from ⟨by decide, by decide⟩) (by decide) (by decide)) s_MO_rooms_0 s_MO_table_0 (zM_ui (show zB 0 0 0 from ⟨by decide, by decide⟩) (by decide)) (lv_sub hl [0, 1, 2, 3] rfl)
set_option maxHeartbeats 4000000 in
set_option maxRecDepth 100000 in
theorem c_X12_centre (l : Launch) (D : va_G) (cI : ClassId) (cB : ClassId) (cL : ClassId) (cZ : ClassId) (cG : ClassId) (MO : Nat) (aMO : Nat → Nat) (MO_taped : Int32) (MO_size : Int32) (MO_faultKind : Int32) (MO_faultPlace : Int32) (MO_at : Int32) (MO_end : Int32) (MO_token : Int32) (MO_number : Int32) (MO_name : Int64) (MO_bank : Int32) (MO_rb : Int32) (MO_codes : Int32) (MO_within : Int32) (MO_piled : Int32) (MO_unitsInRule : Int32) (MO_askThing : Int32) (MO_acts : Int32) (MO_undone : Int32) (MO_laid : Int32) (MO_heards : Int32) (MO_time : Int32) (MO_rooms : Nat → Int32) (MO_table : Nat → Int32) (b_MO_taped : zB MO_taped 0 1600) (b_MO_size : zB MO_size 0 1600) (b_MO_faultKind : zB MO_faultKind 0 5) (b_MO_at : zB MO_at 0 1600) (b_MO_end : zB MO_end 0 1600) (b_MO_token : zB MO_token 0 5) (b_MO_bank : zB MO_bank 0 1) (b_MO_rb : zB MO_rb 0 1) (b_MO_codes : zB MO_codes 0 1120) (b_MO_within : zB MO_within 0 7) (b_MO_piled : zB MO_piled 0 89) (b_MO_unitsInRule : zB MO_unitsInRule 0 30) (b_MO_askThing : zB MO_askThing 0 5) (b_MO_acts : zB MO_acts 0 40) (b_MO_undone : zB MO_undone 0 40) (b_MO_laid : zB MO_laid 0 8) (b_MO_heards : zB MO_heards 0 30) (b_MO_time : zB MO_time 0 100000) (s_MO_rooms_0 : zA MO_rooms 0 2 0 8) (s_MO_table_0 : zA MO_table 0 64 0 10000) : Met l yX12_centre wsX12_centre ({ frames := 2, cells := 0, slots := 0, locals := 45 }) (xr D [(cI, .int), (cB, .byte), (cL, .long), (cZ, .boolean), (cG, .array .int)] [(MO, .inr (12, oX12 aMO MO_taped MO_size MO_faultKind MO_faultPlace MO_at MO_end MO_token MO_number MO_name MO_bank MO_rb MO_codes MO_within MO_piled MO_unitsInRule MO_askThing MO_acts MO_undone MO_laid MO_heards MO_time)), ((aMO 11), .inl (cI, 2, .inl MO_rooms)), ((aMO 43), .inl (cI, 64, .inl MO_table))] [.ref MO]) (vp_Si (fun r => zB r (-1) 7)) 0 0 (fun _ => False) := by
  refine Met.ofW (cc := cX12_centre) (maxL := 3) (ret := (some .int)) (by decide) rfl ?_
  intro p e s m args below meth c s₁ B hml hv
  obtain ⟨rfl, hP, hK⟩ := hv
  have hx := B.exec
  have hb := B.bytes
  have hr := B.returns
  have hts := atoms_spec (ws := wsX12_centre) B.pre
  have hown : s.vm.findClass RX12 = some m.cls := findClass_of_methodNamed B.named
  have hlocks := B.notSynchronized
  clear B
  have hl := lv_entry ([.ref MO]) (n := 3) (Nat.le_of_ble_eq_true rfl)
  rw [lg_entry_eq]
  generalize (lg_sl ([.ref MO]) ++ List.replicate (3 - (lg_sl ([.ref MO])).length) Slot.unset).toArray = ls at hl ⊢
  replace hl : lv_has ls 3 [(0, .ref MO)] := hl
  refine zz_abs (R := ({ frames := 2, cells := 0, slots := 0, locals := 45 } : Room)) (fun Q up => ?_)
  refine lv_iconst (v := (-1)) hx hb dX12_centre_0 (by decide) ?_
  refine lv_istore_n (lv' := [(1, .int (-1)), (0, .ref MO)]) hx hb dX12_centre_1 rfl hl (by decide) rfl (fun ls hl => ?_)
  refine lv_iconst (v := 0) hx hb dX12_centre_2 (by decide) ?_
  have j4 : ∀ (n4 : Nat) (ls : Array Slot) (v4_2 : Int32) (v4_1 : Int32), zB v4_2 0 8 → zB v4_1 (-1) 7 → zA MO_rooms 0 2 0 8 → zA MO_table 0 64 0 10000 → (8 + 1 - v4_2.toInt) ≤ (n4 : Int) → lv_has ls 3 [(2, .int v4_2), (1, .int v4_1), (0, .ref MO)] → W p l e ({ frames := 2, cells := 0, slots := 0, locals := 45 } : Room) s m ([.ref MO] : List Value).toArray below meth c s.heap [] 0 0 Q (F0 m 4 ls []) := by
    intro n4
    induction n4 with
    | zero => intro ls v4_2 v4_1 bv4_2_k4 bv4_1_k4 sMO_rooms_0_k4 sMO_table_0_k4 hm4 hl; exact zM_u0 bv4_2_k4 hm4
    | succ n4 ih4 =>
      intro ls v4_2 v4_1 bv4_2_k4 bv4_1_k4 sMO_rooms_0_k4 sMO_table_0_k4 hm4 hl
      refine lv_iload_n hx hb dX12_centre_4 rfl (lv_at hl 0 rfl) ?_
      refine lv_aload_n hx hb dX12_centre_5 rfl (lv_at hl 2 rfl) ?_
      have hPc := hP.sub (ws' := [(MO, .inr (12, oX12 aMO MO_taped MO_size MO_faultKind MO_faultPlace MO_at MO_end MO_token MO_number MO_name MO_bank MO_rb MO_codes MO_within MO_piled MO_unitsInRule MO_askThing MO_acts MO_undone MO_laid MO_heards MO_time)), ((aMO 11), .inl (cI, 2, .inl MO_rooms))]) [0, 1] rfl
      refine vp_callSi (va_runV (As := []) (rest := [.int v4_2]) ⟨hx, hb, hml, hown, hts⟩ (c_X12_places l D cI cB cL cZ cG MO aMO MO_taped MO_size MO_faultKind MO_faultPlace MO_at MO_end MO_token MO_number MO_name MO_bank MO_rb MO_codes MO_within MO_piled MO_unitsInRule MO_askThing MO_acts MO_undone MO_laid MO_heards MO_time MO_rooms b_MO_taped b_MO_size b_MO_faultKind b_MO_at b_MO_end b_MO_token b_MO_bank b_MO_rb b_MO_codes b_MO_within b_MO_piled b_MO_unitsInRule b_MO_askThing b_MO_acts b_MO_undone b_MO_laid b_MO_heards b_MO_time sMO_rooms_0_k4) (cwV 0 hts gX12_centre_X12_places rfl rfl rfl (by decide +kernel) ⟨Nat.le_of_ble_eq_true rfl, Nat.le_of_ble_eq_true rfl⟩) ⟨xr_blind, va_recv hK hP (ci := 12) (q0 := 0) rfl rfl, fun U hU hW => xr_mk hU hW hPc hK⟩ rfl rfl hl.1 rfl (lv_room (Nat.le_of_ble_eq_true rfl)) dX12_centre_6 ⟨Nat.le_of_ble_eq_true rfl, Nat.le_of_ble_eq_true rfl⟩).run (fun r6 hr6 => ?_)
      obtain ⟨hr6, p6_v⟩ := hr6
      clear hPc
      refine lv_icmp_ge (tgt := 37) hx hb dX12_centre_9 (by decide) (fun c9 => ?_) (fun c9 => ?_)
      · refine lv_iload_n hx hb dX12_centre_37 rfl (lv_at hl 1 rfl) ?_
        exact up _ _ _ (W.iret (v := v4_1) hx hb hr (fun t ht hW => ⟨v4_1, rfl, bv4_1_k4, ht⟩) (fun q hq => by cases hq) dX12_centre_38)
      · have bx9f_v4_2 : zB v4_2 0 7 := zB_ltu (zf c9) bv4_2_k4 hr6 (by decide)
        have by9f_r6 : zB r6 1 8 := zB_ltv (zf c9) bx9f_v4_2 hr6 (by decide)
        refine lv_iload_n hx hb dX12_centre_12 rfl (lv_at hl 1 rfl) ?_
        have j31 : ∀ (ls : Array Slot) (v31_1 : Int32), zB v31_1 0 7 → zA MO_rooms 0 2 0 8 → zA MO_table 0 64 0 10000 → lv_has ls 3 [(1, .int v31_1), (2, .int v4_2), (0, .ref MO)] → W p l e ({ frames := 2, cells := 0, slots := 0, locals := 45 } : Room) s m ([.ref MO] : List Value).toArray below meth c s.heap [] 0 0 Q (F0 m 31 ls []) := by
          intro ls v31_1 bv31_1_k31 sMO_rooms_0_k31 sMO_table_0_k31 hl
          obtain ⟨y31, by31, ry31, ey31⟩ := zi_inc (x := v4_2) (k := 1) (a := 1) (b := 8) bx9f_v4_2 (by decide) (by decide) (by decide) (by decide) (by decide)
          refine lv_iinc (v := y31) (lv' := [(2, .int y31), (1, .int v31_1), (0, .ref MO)]) hx hb dX12_centre_31 hl (k := 1) rfl ey31 (by decide) rfl (fun ls hl => ?_)
          refine lv_goto (tgt := 4) hx hb dX12_centre_34 (by decide) ?_
          exact ih4 ls y31 v31_1 (zB_w by31 (by decide) (by decide)) (zB_w bv31_1_k31 (by decide) (by decide)) sMO_rooms_0_k31 sMO_table_0_k31 (zM_us (k := 1) hm4 ry31 (by decide)) (lv_sub hl [0, 1, 2] rfl)
        have j29 : ∀ (ls : Array Slot), zA MO_rooms 0 2 0 8 → zA MO_table 0 64 0 10000 → lv_has ls 3 [(2, .int v4_2), (1, .int v4_1), (0, .ref MO)] → W p l e ({ frames := 2, cells := 0, slots := 0, locals := 45 } : Room) s m ([.ref MO] : List Value).toArray below meth c s.heap [] 0 0 Q (F0 m 29 ls []) := by
          intro ls sMO_rooms_0_k29 sMO_table_0_k29 hl
          refine lv_iload_n hx hb dX12_centre_29 rfl (lv_at hl 0 rfl) ?_
          refine lv_istore_n (lv' := [(1, .int v4_2), (2, .int v4_2), (0, .ref MO)]) hx hb dX12_centre_30 rfl hl (by decide) rfl (fun ls hl => ?_)
          exact j31 ls v4_2 bx9f_v4_2 sMO_rooms_0_k29 sMO_table_0_k29 (lv_sub hl [0, 1, 2] rfl)
        refine lv_if_lt (tgt := 29) hx hb dX12_centre_13 (by decide) (fun c13 => ?_) (fun c13 => ?_)
        · have bx13t_v4_1 : zB v4_1 (-1) (-1) := zB_ltu (zl c13) bv4_1_k4 (show zB 0 0 0 from ⟨by decide, by decide⟩) (by decide)
          exact j29 ls sMO_rooms_0_k4 sMO_table_0_k4 (lv_sub hl [0, 1, 2] rfl)
        · have by13f_v4_1 : zB v4_1 0 7 := zB_lev (zg c13) (show zB 0 0 0 from ⟨by decide, by decide⟩) bv4_1_k4 (by decide)
          refine lv_aload_n hx hb dX12_centre_16 rfl (lv_at hl 2 rfl) ?_
          refine lv_iload_n hx hb dX12_centre_17 rfl (lv_at hl 0 rfl) ?_
          have hPc := hP.sub (ws' := [(MO, .inr (12, oX12 aMO MO_taped MO_size MO_faultKind MO_faultPlace MO_at MO_end MO_token MO_number MO_name MO_bank MO_rb MO_codes MO_within MO_piled MO_unitsInRule MO_askThing MO_acts MO_undone MO_laid MO_heards MO_time)), ((aMO 11), .inl (cI, 2, .inl MO_rooms)), ((aMO 43), .inl (cI, 64, .inl MO_table))]) [0, 1, 2] rfl
          refine vp_callSi (va_runV (As := [.int v4_2]) (rest := []) ⟨hx, hb, hml, hown, hts⟩ (c_X12_farthest l D cI cB cL cZ cG MO v4_2 aMO MO_taped MO_size MO_faultKind MO_faultPlace MO_at MO_end MO_token MO_number MO_name MO_bank MO_rb MO_codes MO_within MO_piled MO_unitsInRule MO_askThing MO_acts MO_undone MO_laid MO_heards MO_time MO_rooms MO_table bx9f_v4_2 b_MO_taped b_MO_size b_MO_faultKind b_MO_at b_MO_end b_MO_token b_MO_bank b_MO_rb b_MO_codes b_MO_within b_MO_piled b_MO_unitsInRule b_MO_askThing b_MO_acts b_MO_undone b_MO_laid b_MO_heards b_MO_time sMO_rooms_0_k4 sMO_table_0_k4) (cwV 1 hts gX12_centre_X12_farthest rfl rfl rfl (by decide +kernel) ⟨Nat.le_of_ble_eq_true rfl, Nat.le_of_ble_eq_true rfl⟩) ⟨xr_blind, va_recv hK hP (ci := 12) (q0 := 0) rfl rfl, fun U hU hW => xr_mk hU hW hPc hK⟩ rfl rfl hl.1 rfl (lv_room (Nat.le_of_ble_eq_true rfl)) dX12_centre_18 ⟨Nat.le_of_ble_eq_true rfl, Nat.le_of_ble_eq_true rfl⟩).run (fun r18 hr18 => ?_)
          clear hPc
          refine lv_aload_n hx hb dX12_centre_21 rfl (lv_at hl 2 rfl) ?_
          refine lv_iload_n hx hb dX12_centre_22 rfl (lv_at hl 1 rfl) ?_
          have hPc := hP.sub (ws' := [(MO, .inr (12, oX12 aMO MO_taped MO_size MO_faultKind MO_faultPlace MO_at MO_end MO_token MO_number MO_name MO_bank MO_rb MO_codes MO_within MO_piled MO_unitsInRule MO_askThing MO_acts MO_undone MO_laid MO_heards MO_time)), ((aMO 11), .inl (cI, 2, .inl MO_rooms)), ((aMO 43), .inl (cI, 64, .inl MO_table))]) [0, 1, 2] rfl
          refine vp_callSi (va_runV (As := [.int v4_1]) (rest := [.int r18]) ⟨hx, hb, hml, hown, hts⟩ (c_X12_farthest l D cI cB cL cZ cG MO v4_1 aMO MO_taped MO_size MO_faultKind MO_faultPlace MO_at MO_end MO_token MO_number MO_name MO_bank MO_rb MO_codes MO_within MO_piled MO_unitsInRule MO_askThing MO_acts MO_undone MO_laid MO_heards MO_time MO_rooms MO_table by13f_v4_1 b_MO_taped b_MO_size b_MO_faultKind b_MO_at b_MO_end b_MO_token b_MO_bank b_MO_rb b_MO_codes b_MO_within b_MO_piled b_MO_unitsInRule b_MO_askThing b_MO_acts b_MO_undone b_MO_laid b_MO_heards b_MO_time sMO_rooms_0_k4 sMO_table_0_k4) (cwV 1 hts gX12_centre_X12_farthest rfl rfl rfl (by decide +kernel) ⟨Nat.le_of_ble_eq_true rfl, Nat.le_of_ble_eq_true rfl⟩) ⟨xr_blind, va_recv hK hP (ci := 12) (q0 := 0) rfl rfl, fun U hU hW => xr_mk hU hW hPc hK⟩ rfl rfl hl.1 rfl (lv_room (Nat.le_of_ble_eq_true rfl)) dX12_centre_23 ⟨Nat.le_of_ble_eq_true rfl, Nat.le_of_ble_eq_true rfl⟩).run (fun r23 hr23 => ?_)
          clear hPc
          refine lv_icmp_ge (tgt := 31) hx hb dX12_centre_26 (by decide) (fun c26 => ?_) (fun c26 => ?_)
          · exact j31 ls v4_1 by13f_v4_1 sMO_rooms_0_k4 sMO_table_0_k4 (lv_sub hl [1, 0, 2] rfl)
          · have bx26f_r18 : zB r18 0 9999 := zB_ltu (zf c26) hr18 hr23 (by decide)
            have by26f_r23 : zB r23 1 10000 := zB_ltv (zf c26) bx26f_r18 hr23 (by decide)
            exact j29 ls sMO_rooms_0_k4 sMO_table_0_k4 (lv_sub hl [0, 1, 2] rfl)
  refine lv_istore_n (lv' := [(2, .int 0), (1, .int (-1)), (0, .ref MO)]) hx hb dX12_centre_3 rfl hl (by decide) rfl (fun ls hl => ?_)
  exact j4 9 ls 0 (-1) (zB_w (show zB 0 0 0 from ⟨by decide, by decide⟩) (by decide) (by decide)) (zB_w (show zB (-1) (-1) (-1) from ⟨by decide, by decide⟩) (by decide) (by decide)) s_MO_rooms_0 s_MO_table_0 (zM_ui (show zB 0 0 0 from ⟨by decide, by decide⟩) (by decide)) (lv_sub hl [0, 1, 2] rfl)
set_option maxHeartbeats 4000000 in
set_option maxRecDepth 100000 in
theorem c_X12_nooks (l : Launch) (D : va_G) (cI : ClassId) (cB : ClassId) (cL : ClassId) (cZ : ClassId) (cG : ClassId) (MO : Nat) (aMO : Nat → Nat) (MO_taped : Int32) (MO_size : Int32) (MO_faultKind : Int32) (MO_faultPlace : Int32) (MO_at : Int32) (MO_end : Int32) (MO_token : Int32) (MO_number : Int32) (MO_name : Int64) (MO_bank : Int32) (MO_rb : Int32) (MO_codes : Int32) (MO_within : Int32) (MO_piled : Int32) (MO_unitsInRule : Int32) (MO_askThing : Int32) (MO_acts : Int32) (MO_undone : Int32) (MO_laid : Int32) (MO_heards : Int32) (MO_time : Int32) (MO_rooms : Nat → Int32) (MO_doors : Nat → Int32) (MO_one : Nat → Int32) (MO_other : Nat → Int32) (b_MO_taped : zB MO_taped 0 1600) (b_MO_size : zB MO_size 0 1600) (b_MO_faultKind : zB MO_faultKind 0 5) (b_MO_at : zB MO_at 0 1600) (b_MO_end : zB MO_end 0 1600) (b_MO_token : zB MO_token 0 5) (b_MO_bank : zB MO_bank 0 1) (b_MO_rb : zB MO_rb 0 1) (b_MO_codes : zB MO_codes 0 1120) (b_MO_within : zB MO_within 0 7) (b_MO_piled : zB MO_piled 0 89) (b_MO_unitsInRule : zB MO_unitsInRule 0 30) (b_MO_askThing : zB MO_askThing 0 5) (b_MO_acts : zB MO_acts 0 40) (b_MO_undone : zB MO_undone 0 40) (b_MO_laid : zB MO_laid 0 8) (b_MO_heards : zB MO_heards 0 30) (b_MO_time : zB MO_time 0 100000) (s_MO_rooms_0 : zA MO_rooms 0 2 0 8) (s_MO_doors_0 : zA MO_doors 0 2 0 12) (s_MO_one_0 : zA MO_one 0 24 0 7) (s_MO_other_0 : zA MO_other 0 24 0 7) : Met l yX12_nooks wsX12_nooks ({ frames := 2, cells := 0, slots := 0, locals := 45 }) (xr D [(cI, .int), (cB, .byte), (cL, .long), (cZ, .boolean), (cG, .array .int)] [(MO, .inr (12, oX12 aMO MO_taped MO_size MO_faultKind MO_faultPlace MO_at MO_end MO_token MO_number MO_name MO_bank MO_rb MO_codes MO_within MO_piled MO_unitsInRule MO_askThing MO_acts MO_undone MO_laid MO_heards MO_time)), ((aMO 11), .inl (cI, 2, .inl MO_rooms)), ((aMO 12), .inl (cI, 2, .inl MO_doors)), ((aMO 17), .inl (cI, 24, .inl MO_one)), ((aMO 18), .inl (cI, 24, .inl MO_other))] [.ref MO]) (vp_Si (fun r => zB r 0 255)) 0 0 (fun _ => False) := by
  refine Met.ofW (cc := cX12_nooks) (maxL := 3) (ret := (some .int)) (by decide) rfl ?_
  intro p e s m args below meth c s₁ B hml hv
  obtain ⟨rfl, hP, hK⟩ := hv
  have hx := B.exec
  have hb := B.bytes
  have hr := B.returns
  have hts := atoms_spec (ws := wsX12_nooks) B.pre
  have hown : s.vm.findClass RX12 = some m.cls := findClass_of_methodNamed B.named
  have hlocks := B.notSynchronized
  clear B
  have hl := lv_entry ([.ref MO]) (n := 3) (Nat.le_of_ble_eq_true rfl)
  rw [lg_entry_eq]
  generalize (lg_sl ([.ref MO]) ++ List.replicate (3 - (lg_sl ([.ref MO])).length) Slot.unset).toArray = ls at hl ⊢
  replace hl : lv_has ls 3 [(0, .ref MO)] := hl
  refine zz_abs (R := ({ frames := 2, cells := 0, slots := 0, locals := 45 } : Room)) (fun Q up => ?_)
  refine lv_iconst (v := 0) hx hb dX12_nooks_0 (by decide) ?_
  refine lv_istore_n (lv' := [(1, .int 0), (0, .ref MO)]) hx hb dX12_nooks_1 rfl hl (by decide) rfl (fun ls hl => ?_)
  refine lv_iconst (v := 0) hx hb dX12_nooks_2 (by decide) ?_
  have j4 : ∀ (n4 : Nat) (ls : Array Slot) (v4_2 : Int32) (v4_1 : Int32), zB v4_2 0 8 → zB v4_1 0 255 → zA MO_rooms 0 2 0 8 → zA MO_doors 0 2 0 12 → zA MO_one 0 24 0 7 → zA MO_other 0 24 0 7 → (8 + 1 - v4_2.toInt) ≤ (n4 : Int) → lv_has ls 3 [(2, .int v4_2), (1, .int v4_1), (0, .ref MO)] → W p l e ({ frames := 2, cells := 0, slots := 0, locals := 45 } : Room) s m ([.ref MO] : List Value).toArray below meth c s.heap [] 0 0 Q (F0 m 4 ls []) := by
    intro n4
    induction n4 with
    | zero => intro ls v4_2 v4_1 bv4_2_k4 bv4_1_k4 sMO_rooms_0_k4 sMO_doors_0_k4 sMO_one_0_k4 sMO_other_0_k4 hm4 hl; exact zM_u0 bv4_2_k4 hm4
    | succ n4 ih4 =>
      intro ls v4_2 v4_1 bv4_2_k4 bv4_1_k4 sMO_rooms_0_k4 sMO_doors_0_k4 sMO_one_0_k4 sMO_other_0_k4 hm4 hl
      refine lv_iload_n hx hb dX12_nooks_4 rfl (lv_at hl 0 rfl) ?_
      refine lv_aload_n hx hb dX12_nooks_5 rfl (lv_at hl 2 rfl) ?_
      have hPc := hP.sub (ws' := [(MO, .inr (12, oX12 aMO MO_taped MO_size MO_faultKind MO_faultPlace MO_at MO_end MO_token MO_number MO_name MO_bank MO_rb MO_codes MO_within MO_piled MO_unitsInRule MO_askThing MO_acts MO_undone MO_laid MO_heards MO_time)), ((aMO 11), .inl (cI, 2, .inl MO_rooms))]) [0, 1] rfl
      refine vp_callSi (va_runV (As := []) (rest := [.int v4_2]) ⟨hx, hb, hml, hown, hts⟩ (c_X12_places l D cI cB cL cZ cG MO aMO MO_taped MO_size MO_faultKind MO_faultPlace MO_at MO_end MO_token MO_number MO_name MO_bank MO_rb MO_codes MO_within MO_piled MO_unitsInRule MO_askThing MO_acts MO_undone MO_laid MO_heards MO_time MO_rooms b_MO_taped b_MO_size b_MO_faultKind b_MO_at b_MO_end b_MO_token b_MO_bank b_MO_rb b_MO_codes b_MO_within b_MO_piled b_MO_unitsInRule b_MO_askThing b_MO_acts b_MO_undone b_MO_laid b_MO_heards b_MO_time sMO_rooms_0_k4) (cwV 0 hts gX12_nooks_X12_places rfl rfl rfl (by decide +kernel) ⟨Nat.le_of_ble_eq_true rfl, Nat.le_of_ble_eq_true rfl⟩) ⟨xr_blind, va_recv hK hP (ci := 12) (q0 := 0) rfl rfl, fun U hU hW => xr_mk hU hW hPc hK⟩ rfl rfl hl.1 rfl (lv_room (Nat.le_of_ble_eq_true rfl)) dX12_nooks_6 ⟨Nat.le_of_ble_eq_true rfl, Nat.le_of_ble_eq_true rfl⟩).run (fun r6 hr6 => ?_)
      obtain ⟨hr6, p6_v⟩ := hr6
      clear hPc
      refine lv_icmp_ge (tgt := 37) hx hb dX12_nooks_9 (by decide) (fun c9 => ?_) (fun c9 => ?_)
      · refine lv_iload_n hx hb dX12_nooks_37 rfl (lv_at hl 1 rfl) ?_
        exact up _ _ _ (W.iret (v := v4_1) hx hb hr (fun t ht hW => ⟨v4_1, rfl, bv4_1_k4, ht⟩) (fun q hq => by cases hq) dX12_nooks_38)
      · have bx9f_v4_2 : zB v4_2 0 7 := zB_ltu (zf c9) bv4_2_k4 hr6 (by decide)
        have by9f_r6 : zB r6 1 8 := zB_ltv (zf c9) bx9f_v4_2 hr6 (by decide)
        refine lv_aload_n hx hb dX12_nooks_12 rfl (lv_at hl 2 rfl) ?_
        refine lv_iload_n hx hb dX12_nooks_13 rfl (lv_at hl 0 rfl) ?_
        refine lv_iconst (v := (-1)) hx hb dX12_nooks_14 (by decide) ?_
        have hPc := hP.sub (ws' := [(MO, .inr (12, oX12 aMO MO_taped MO_size MO_faultKind MO_faultPlace MO_at MO_end MO_token MO_number MO_name MO_bank MO_rb MO_codes MO_within MO_piled MO_unitsInRule MO_askThing MO_acts MO_undone MO_laid MO_heards MO_time)), ((aMO 12), .inl (cI, 2, .inl MO_doors)), ((aMO 17), .inl (cI, 24, .inl MO_one)), ((aMO 18), .inl (cI, 24, .inl MO_other))]) [0, 2, 3, 4] rfl
        refine vp_callSi (va_runV (As := [.int v4_2, .int (-1)]) (rest := []) ⟨hx, hb, hml, hown, hts⟩ (c_X12_behind l D cI cB cL cZ cG MO v4_2 (-1) aMO MO_taped MO_size MO_faultKind MO_faultPlace MO_at MO_end MO_token MO_number MO_name MO_bank MO_rb MO_codes MO_within MO_piled MO_unitsInRule MO_askThing MO_acts MO_undone MO_laid MO_heards MO_time MO_doors MO_one MO_other b_MO_taped b_MO_size b_MO_faultKind b_MO_at b_MO_end b_MO_token b_MO_bank b_MO_rb b_MO_codes b_MO_within b_MO_piled b_MO_unitsInRule b_MO_askThing b_MO_acts b_MO_undone b_MO_laid b_MO_heards b_MO_time sMO_doors_0_k4 sMO_one_0_k4 sMO_other_0_k4) (cwV 2 hts gX12_nooks_X12_behind rfl rfl rfl (by decide +kernel) ⟨Nat.le_of_ble_eq_true rfl, Nat.le_of_ble_eq_true rfl⟩) ⟨xr_blind, va_recv hK hP (ci := 12) (q0 := 0) rfl rfl, fun U hU hW => xr_mk hU hW hPc hK⟩ rfl rfl hl.1 rfl (lv_room (Nat.le_of_ble_eq_true rfl)) dX12_nooks_15 ⟨Nat.le_of_ble_eq_true rfl, Nat.le_of_ble_eq_true rfl⟩).run (fun r15 hr15 => ?_)
        obtain ⟨hr15, p15_b, p15_u⟩ := hr15
        clear hPc
        have hPc := hP.sub (ws' := []) [] rfl
        refine vp_callSi (va_runS (As := [.int r15]) (rest := []) ⟨hx, hb, hml, hown, hts⟩ (c_X12_bitsOf l D cI cB cL cZ cG r15 hr15) (va_cwS 1 hts gX12_nooks_X12_bitsOf rfl rfl rfl (by decide +kernel) ⟨Nat.le_of_ble_eq_true rfl, Nat.le_of_ble_eq_true rfl⟩) ⟨xr_blind, fun U hU hW => xr_mk hU hW hPc hK⟩ rfl rfl hl.1 rfl (lv_room (Nat.le_of_ble_eq_true rfl)) dX12_nooks_18 ⟨Nat.le_of_ble_eq_true rfl, Nat.le_of_ble_eq_true rfl⟩).run (fun r18 hr18 => ?_)
        clear hPc
        clear hr18
        refine lv_iconst (v := 2) hx hb dX12_nooks_21 (by decide) ?_
        have j31 : ∀ (ls : Array Slot) (v31_1 : Int32), zB v31_1 0 255 → zA MO_rooms 0 2 0 8 → zA MO_doors 0 2 0 12 → zA MO_one 0 24 0 7 → zA MO_other 0 24 0 7 → lv_has ls 3 [(2, .int v4_2), (1, .int v31_1), (0, .ref MO)] → W p l e ({ frames := 2, cells := 0, slots := 0, locals := 45 } : Room) s m ([.ref MO] : List Value).toArray below meth c s.heap [] 0 0 Q (F0 m 31 ls []) := by
          intro ls v31_1 bv31_1_k31 sMO_rooms_0_k31 sMO_doors_0_k31 sMO_one_0_k31 sMO_other_0_k31 hl
          obtain ⟨y31, by31, ry31, ey31⟩ := zi_inc (x := v4_2) (k := 1) (a := 1) (b := 8) bx9f_v4_2 (by decide) (by decide) (by decide) (by decide) (by decide)
          refine lv_iinc (v := y31) (lv' := [(2, .int y31), (1, .int v31_1), (0, .ref MO)]) hx hb dX12_nooks_31 hl (k := 0) rfl ey31 (by decide) rfl (fun ls hl => ?_)
          refine lv_goto (tgt := 4) hx hb dX12_nooks_34 (by decide) ?_
          exact ih4 ls y31 v31_1 (zB_w by31 (by decide) (by decide)) bv31_1_k31 sMO_rooms_0_k31 sMO_doors_0_k31 sMO_one_0_k31 sMO_other_0_k31 (zM_us (k := 1) hm4 ry31 (by decide)) (lv_sub hl [0, 1, 2] rfl)
        refine lv_icmp_ge (tgt := 31) hx hb dX12_nooks_22 (by decide) (fun c22 => ?_) (fun c22 => ?_)
        · have by22t_r18 : zB r18 2 2147483647 := zB_lev (ze c22) (show zB 2 2 2 from ⟨by decide, by decide⟩) (zB_top r18) (by decide)
          exact j31 ls v4_1 bv4_1_k4 sMO_rooms_0_k4 sMO_doors_0_k4 sMO_one_0_k4 sMO_other_0_k4 (lv_sub hl [0, 1, 2] rfl)
        · have bx22f_r18 : zB r18 (-2147483648) 1 := zB_ltu (zf c22) (zB_top r18) (show zB 2 2 2 from ⟨by decide, by decide⟩) (by decide)
          refine lv_iload_n hx hb dX12_nooks_25 rfl (lv_at hl 1 rfl) ?_
          refine lv_iconst (v := 1) hx hb dX12_nooks_26 (by decide) ?_
          refine lv_iload_n hx hb dX12_nooks_27 rfl (lv_at hl 0 rfl) ?_
          refine lv_ishl hx hb dX12_nooks_28 ?_
          refine zi_top (a := 1) (b := 128) (zB_shl1 bx9f_v4_2 (by decide) (by decide) (by decide) (by decide)) (fun y28 by28 => ?_)
          refine lv_ior hx hb dX12_nooks_29 ?_
          refine zi_top (a := 1) (b := 255) (zB_or 8 bv4_1_k4 by28 (by decide) (by decide) (by decide) (by decide) (by decide) (by decide) (by decide)) (fun y29 by29 => ?_)
          refine lv_istore_n (lv' := [(1, .int y29), (2, .int v4_2), (0, .ref MO)]) hx hb dX12_nooks_30 rfl hl (by decide) rfl (fun ls hl => ?_)
          exact j31 ls y29 (zB_w by29 (by decide) (by decide)) sMO_rooms_0_k4 sMO_doors_0_k4 sMO_one_0_k4 sMO_other_0_k4 (lv_sub hl [1, 0, 2] rfl)
  refine lv_istore_n (lv' := [(2, .int 0), (1, .int 0), (0, .ref MO)]) hx hb dX12_nooks_3 rfl hl (by decide) rfl (fun ls hl => ?_)
  exact j4 9 ls 0 0 (zB_w (show zB 0 0 0 from ⟨by decide, by decide⟩) (by decide) (by decide)) (zB_w (show zB 0 0 0 from ⟨by decide, by decide⟩) (by decide) (by decide)) s_MO_rooms_0 s_MO_doors_0 s_MO_one_0 s_MO_other_0 (zM_ui (show zB 0 0 0 from ⟨by decide, by decide⟩) (by decide)) (lv_sub hl [0, 1, 2] rfl)
set_option maxHeartbeats 4000000 in
set_option maxRecDepth 100000 in
theorem c_X12_echo (l : Launch) (D : va_G) (cI : ClassId) (cB : ClassId) (cL : ClassId) (cZ : ClassId) (cG : ClassId) (MO : Nat) (x0 : Int32) (x1 : Int32) (aMO : Nat → Nat) (MO_taped : Int32) (MO_size : Int32) (MO_faultKind : Int32) (MO_faultPlace : Int32) (MO_at : Int32) (MO_end : Int32) (MO_token : Int32) (MO_number : Int32) (MO_name : Int64) (MO_bank : Int32) (MO_rb : Int32) (MO_codes : Int32) (MO_within : Int32) (MO_piled : Int32) (MO_unitsInRule : Int32) (MO_askThing : Int32) (MO_acts : Int32) (MO_undone : Int32) (MO_laid : Int32) (MO_heards : Int32) (MO_time : Int32) (MO_rooms : Nat → Int32) (MO_table : Nat → Int32) (MO_creaks : Nat → Int32) (b_MO_taped : zB MO_taped 0 1600) (b_MO_size : zB MO_size 0 1600) (b_MO_faultKind : zB MO_faultKind 0 5) (b_MO_at : zB MO_at 0 1600) (b_MO_end : zB MO_end 0 1600) (b_MO_token : zB MO_token 0 5) (b_MO_bank : zB MO_bank 0 1) (b_MO_rb : zB MO_rb 0 1) (b_MO_codes : zB MO_codes 0 1120) (b_MO_within : zB MO_within 0 7) (b_MO_piled : zB MO_piled 0 89) (b_MO_unitsInRule : zB MO_unitsInRule 0 30) (b_MO_askThing : zB MO_askThing 0 5) (b_MO_acts : zB MO_acts 0 40) (b_MO_undone : zB MO_undone 0 40) (b_MO_laid : zB MO_laid 0 8) (b_MO_heards : zB MO_heards 0 30) (b_MO_time : zB MO_time 0 100000) (s_MO_rooms_0 : zA MO_rooms 0 2 0 8) (s_MO_table_0 : zA MO_table 0 64 0 10000) (s_MO_creaks_0 : zA MO_creaks 0 16 0 9) : Met l yX12_echo wsX12_echo ({ frames := 2, cells := 0, slots := 0, locals := 43 }) (xr D [(cI, .int), (cB, .byte), (cL, .long), (cZ, .boolean), (cG, .array .int)] [(MO, .inr (12, oX12 aMO MO_taped MO_size MO_faultKind MO_faultPlace MO_at MO_end MO_token MO_number MO_name MO_bank MO_rb MO_codes MO_within MO_piled MO_unitsInRule MO_askThing MO_acts MO_undone MO_laid MO_heards MO_time)), ((aMO 11), .inl (cI, 2, .inl MO_rooms)), ((aMO 43), .inl (cI, 64, .inl MO_table)), ((aMO 16), .inl (cI, 16, .inl MO_creaks))] [.ref MO, .int x0, .int x1]) (vp_Si (fun r => True)) 0 0 (fun _ => False) := by
  refine Met.ofW (cc := cX12_echo) (maxL := 5) (ret := (some .int)) (by decide) rfl ?_
  intro p e s m args below meth c s₁ B hml hv
  obtain ⟨rfl, hP, hK⟩ := hv
  have hx := B.exec
  have hb := B.bytes
  have hr := B.returns
  have hts := atoms_spec (ws := wsX12_echo) B.pre
  have hown : s.vm.findClass RX12 = some m.cls := findClass_of_methodNamed B.named
  have hlocks := B.notSynchronized
  clear B
  have hl := lv_entry ([.ref MO, .int x0, .int x1]) (n := 5) (Nat.le_of_ble_eq_true rfl)
  rw [lg_entry_eq]
  generalize (lg_sl ([.ref MO, .int x0, .int x1]) ++ List.replicate (5 - (lg_sl ([.ref MO, .int x0, .int x1])).length) Slot.unset).toArray = ls at hl ⊢
  replace hl : lv_has ls 5 [(0, .ref MO), (1, .int x0), (2, .int x1)] := hl
  refine zz_abs (R := ({ frames := 2, cells := 0, slots := 0, locals := 43 } : Room)) (fun Q up => ?_)
  refine lv_aload_n hx hb dX12_echo_0 rfl (lv_at hl 0 rfl) ?_
  refine lv_iload_n hx hb dX12_echo_1 rfl (lv_at hl 1 rfl) ?_
  have hPc := hP.sub (ws' := [(MO, .inr (12, oX12 aMO MO_taped MO_size MO_faultKind MO_faultPlace MO_at MO_end MO_token MO_number MO_name MO_bank MO_rb MO_codes MO_within MO_piled MO_unitsInRule MO_askThing MO_acts MO_undone MO_laid MO_heards MO_time)), ((aMO 11), .inl (cI, 2, .inl MO_rooms))]) [0, 1] rfl
  refine vp_callSi (va_runV (As := [.int x0]) (rest := []) ⟨hx, hb, hml, hown, hts⟩ (c_X12_isRoom l D cI cB cL cZ cG MO x0 aMO MO_taped MO_size MO_faultKind MO_faultPlace MO_at MO_end MO_token MO_number MO_name MO_bank MO_rb MO_codes MO_within MO_piled MO_unitsInRule MO_askThing MO_acts MO_undone MO_laid MO_heards MO_time MO_rooms b_MO_taped b_MO_size b_MO_faultKind b_MO_at b_MO_end b_MO_token b_MO_bank b_MO_rb b_MO_codes b_MO_within b_MO_piled b_MO_unitsInRule b_MO_askThing b_MO_acts b_MO_undone b_MO_laid b_MO_heards b_MO_time s_MO_rooms_0) (cwV 1 hts gX12_echo_X12_isRoom rfl rfl rfl (by decide +kernel) ⟨Nat.le_of_ble_eq_true rfl, Nat.le_of_ble_eq_true rfl⟩) ⟨xr_blind, va_recv hK hP (ci := 12) (q0 := 0) rfl rfl, fun U hU hW => xr_mk hU hW hPc hK⟩ rfl rfl hl.1 rfl (lv_room (Nat.le_of_ble_eq_true rfl)) dX12_echo_2 ⟨Nat.le_of_ble_eq_true rfl, Nat.le_of_ble_eq_true rfl⟩).run (fun r2 hr2 => ?_)
  clear hPc
  rcases hr2 with rfl | ⟨rfl, hr2_1_0⟩
  · refine lv_if_eq (tgt := 18) hx hb dX12_echo_5 (by decide) (fun _ => ?_) (fun c5 => absurd (by decide) c5)
    refine lv_iconst (v := (-1)) hx hb dX12_echo_18 (by decide) ?_
    exact up _ _ _ (W.iret (v := (-1)) hx hb hr (fun t ht hW => ⟨(-1), rfl, trivial, ht⟩) (fun q hq => by cases hq) dX12_echo_19)
  · refine lv_if_eq (tgt := 18) hx hb dX12_echo_5 (by decide) (fun c5 => absurd c5 (by decide)) (fun _ => ?_)
    refine lv_iload_n hx hb dX12_echo_8 rfl (lv_at hl 2 rfl) ?_
    refine lv_iconst (v := 0) hx hb dX12_echo_9 (by decide) ?_
    refine lv_bipush (v := 8) hx hb dX12_echo_10 (by decide) ?_
    have hPc := hP.sub (ws' := []) [] rfl
    refine vp_callSi (va_runS (As := [.int x1, .int 0, .int 8]) (rest := []) ⟨hx, hb, hml, hown, hts⟩ (c_X12_isIn l D cI cB cL cZ cG x1 0 8) (va_cwS 3 hts gX12_echo_X12_isIn rfl rfl rfl (by decide +kernel) ⟨Nat.le_of_ble_eq_true rfl, Nat.le_of_ble_eq_true rfl⟩) ⟨xr_blind, fun U hU hW => xr_mk hU hW hPc hK⟩ rfl rfl hl.1 rfl (lv_room (Nat.le_of_ble_eq_true rfl)) dX12_echo_12 ⟨Nat.le_of_ble_eq_true rfl, Nat.le_of_ble_eq_true rfl⟩).run (fun r12 hr12 => ?_)
    clear hPc
    rcases hr12 with rfl | ⟨rfl, hr12_1_0, hr12_1_1⟩
    · refine lv_if_ne (tgt := 20) hx hb dX12_echo_15 (by decide) (fun c15 => absurd (by decide) c15) (fun _ => ?_)
      refine lv_iconst (v := (-1)) hx hb dX12_echo_18 (by decide) ?_
      exact up _ _ _ (W.iret (v := (-1)) hx hb hr (fun t ht hW => ⟨(-1), rfl, trivial, ht⟩) (fun q hq => by cases hq) dX12_echo_19)
    · have by15r0_x1 : zB x1 0 2147483647 := zB_lev hr12_1_0 (show zB 0 0 0 from ⟨by decide, by decide⟩) (zB_top x1) (by decide)
      have bx15r1_x1 : zB x1 0 8 := zB_leu hr12_1_1 by15r0_x1 (show zB 8 8 8 from ⟨by decide, by decide⟩) (by decide)
      refine lv_if_ne (tgt := 20) hx hb dX12_echo_15 (by decide) (fun _ => ?_) (fun c15 => absurd c15 (by decide))
      refine lv_iconst (v := 0) hx hb dX12_echo_20 (by decide) ?_
      refine lv_istore_n (lv' := [(3, .int 0), (0, .ref MO), (1, .int x0), (2, .int x1)]) hx hb dX12_echo_21 rfl hl (by decide) rfl (fun ls hl => ?_)
      refine lv_iconst (v := 0) hx hb dX12_echo_22 (by decide) ?_
      have j25 : ∀ (n25 : Nat) (ls : Array Slot) (v25_4 : Int32) (v25_3 : Int32), zB v25_4 0 8 → zA MO_rooms 0 2 0 8 → zA MO_table 0 64 0 10000 → zA MO_creaks 0 16 0 9 → (8 + 1 - v25_4.toInt) ≤ (n25 : Int) → lv_has ls 5 [(4, .int v25_4), (3, .int v25_3), (0, .ref MO), (1, .int x0), (2, .int x1)] → W p l e ({ frames := 2, cells := 0, slots := 0, locals := 43 } : Room) s m ([.ref MO, .int x0, .int x1] : List Value).toArray below meth c s.heap [] 0 0 Q (F0 m 25 ls []) := by
        intro n25
        induction n25 with
        | zero => intro ls v25_4 v25_3 bv25_4_k25 sMO_rooms_0_k25 sMO_table_0_k25 sMO_creaks_0_k25 hm25 hl; exact zM_u0 bv25_4_k25 hm25
        | succ n25 ih25 =>
          intro ls v25_4 v25_3 bv25_4_k25 sMO_rooms_0_k25 sMO_table_0_k25 sMO_creaks_0_k25 hm25 hl
          refine lv_iload hx hb dX12_echo_25 (lv_at hl 0 rfl) ?_
          refine lv_aload_n hx hb dX12_echo_27 rfl (lv_at hl 2 rfl) ?_
          have hPc := hP.sub (ws' := [(MO, .inr (12, oX12 aMO MO_taped MO_size MO_faultKind MO_faultPlace MO_at MO_end MO_token MO_number MO_name MO_bank MO_rb MO_codes MO_within MO_piled MO_unitsInRule MO_askThing MO_acts MO_undone MO_laid MO_heards MO_time)), ((aMO 11), .inl (cI, 2, .inl MO_rooms))]) [0, 1] rfl
          refine vp_callSi (va_runV (As := []) (rest := [.int v25_4]) ⟨hx, hb, hml, hown, hts⟩ (c_X12_places l D cI cB cL cZ cG MO aMO MO_taped MO_size MO_faultKind MO_faultPlace MO_at MO_end MO_token MO_number MO_name MO_bank MO_rb MO_codes MO_within MO_piled MO_unitsInRule MO_askThing MO_acts MO_undone MO_laid MO_heards MO_time MO_rooms b_MO_taped b_MO_size b_MO_faultKind b_MO_at b_MO_end b_MO_token b_MO_bank b_MO_rb b_MO_codes b_MO_within b_MO_piled b_MO_unitsInRule b_MO_askThing b_MO_acts b_MO_undone b_MO_laid b_MO_heards b_MO_time sMO_rooms_0_k25) (cwV 0 hts gX12_echo_X12_places rfl rfl rfl (by decide +kernel) ⟨Nat.le_of_ble_eq_true rfl, Nat.le_of_ble_eq_true rfl⟩) ⟨xr_blind, va_recv hK hP (ci := 12) (q0 := 0) rfl rfl, fun U hU hW => xr_mk hU hW hPc hK⟩ rfl rfl hl.1 rfl (lv_room (Nat.le_of_ble_eq_true rfl)) dX12_echo_28 ⟨Nat.le_of_ble_eq_true rfl, Nat.le_of_ble_eq_true rfl⟩).run (fun r28 hr28 => ?_)
          obtain ⟨hr28, p28_v⟩ := hr28
          clear hPc
          refine lv_icmp_ge (tgt := 64) hx hb dX12_echo_31 (by decide) (fun c31 => ?_) (fun c31 => ?_)
          · refine lv_iload_n hx hb dX12_echo_64 rfl (lv_at hl 1 rfl) ?_
            exact up _ _ _ (W.iret (v := v25_3) hx hb hr (fun t ht hW => ⟨v25_3, rfl, trivial, ht⟩) (fun q hq => by cases hq) dX12_echo_65)
          · have bx31f_v25_4 : zB v25_4 0 7 := zB_ltu (zf c31) bv25_4_k25 hr28 (by decide)
            have by31f_r28 : zB r28 1 8 := zB_ltv (zf c31) bx31f_v25_4 hr28 (by decide)
            refine lv_iload_n hx hb dX12_echo_34 rfl (lv_at hl 1 rfl) ?_
            refine lv_aload_n hx hb dX12_echo_35 rfl (lv_at hl 2 rfl) ?_
            refine lv_iload_n hx hb dX12_echo_36 rfl (lv_at hl 3 rfl) ?_
            refine lv_iload hx hb dX12_echo_37 (lv_at hl 0 rfl) ?_
            have hPc := hP.sub (ws' := [(MO, .inr (12, oX12 aMO MO_taped MO_size MO_faultKind MO_faultPlace MO_at MO_end MO_token MO_number MO_name MO_bank MO_rb MO_codes MO_within MO_piled MO_unitsInRule MO_askThing MO_acts MO_undone MO_laid MO_heards MO_time)), ((aMO 43), .inl (cI, 64, .inl MO_table))]) [0, 2] rfl
            refine vp_callSi (va_runV (As := [.int x0, .int v25_4]) (rest := [.int v25_3]) ⟨hx, hb, hml, hown, hts⟩ (c_X12_farOf l D cI cB cL cZ cG MO x0 v25_4 aMO MO_taped MO_size MO_faultKind MO_faultPlace MO_at MO_end MO_token MO_number MO_name MO_bank MO_rb MO_codes MO_within MO_piled MO_unitsInRule MO_askThing MO_acts MO_undone MO_laid MO_heards MO_time MO_table hr2_1_0 bx31f_v25_4 b_MO_taped b_MO_size b_MO_faultKind b_MO_at b_MO_end b_MO_token b_MO_bank b_MO_rb b_MO_codes b_MO_within b_MO_piled b_MO_unitsInRule b_MO_askThing b_MO_acts b_MO_undone b_MO_laid b_MO_heards b_MO_time sMO_table_0_k25) (cwV 2 hts gX12_echo_X12_farOf rfl rfl rfl (by decide +kernel) ⟨Nat.le_of_ble_eq_true rfl, Nat.le_of_ble_eq_true rfl⟩) ⟨xr_blind, va_recv hK hP (ci := 12) (q0 := 0) rfl rfl, fun U hU hW => xr_mk hU hW hPc hK⟩ rfl rfl hl.1 rfl (lv_room (Nat.le_of_ble_eq_true rfl)) dX12_echo_39 ⟨Nat.le_of_ble_eq_true rfl, Nat.le_of_ble_eq_true rfl⟩).run (fun r39 hr39 => ?_)
            clear hPc
            refine lv_iload_n hx hb dX12_echo_42 rfl (lv_at hl 4 rfl) ?_
            have j56 : ∀ (ls : Array Slot) (u56_0 : Int32), zB u56_0 0 9 → zA MO_rooms 0 2 0 8 → zA MO_table 0 64 0 10000 → zA MO_creaks 0 16 0 9 → lv_has ls 5 [(4, .int v25_4), (3, .int v25_3), (0, .ref MO), (1, .int x0), (2, .int x1)] → W p l e ({ frames := 2, cells := 0, slots := 0, locals := 43 } : Room) s m ([.ref MO, .int x0, .int x1] : List Value).toArray below meth c s.heap [] 0 0 Q (F0 m 56 ls [.int u56_0, .int v25_3]) := by
              intro ls u56_0 bu56_0_k56 sMO_rooms_0_k56 sMO_table_0_k56 sMO_creaks_0_k56 hl
              refine lv_iadd hx hb dX12_echo_56 ?_
              refine lv_topi (fun y56 _ => ?_)
              refine lv_istore_n (lv' := [(3, .int y56), (4, .int v25_4), (0, .ref MO), (1, .int x0), (2, .int x1)]) hx hb dX12_echo_57 rfl hl (by decide) rfl (fun ls hl => ?_)
              obtain ⟨y58, by58, ry58, ey58⟩ := zi_inc (x := v25_4) (k := 1) (a := 1) (b := 8) bx31f_v25_4 (by decide) (by decide) (by decide) (by decide) (by decide)
              refine lv_iinc (v := y58) (lv' := [(4, .int y58), (3, .int y56), (0, .ref MO), (1, .int x0), (2, .int x1)]) hx hb dX12_echo_58 hl (k := 1) rfl ey58 (by decide) rfl (fun ls hl => ?_)
              refine lv_goto (tgt := 25) hx hb dX12_echo_61 (by decide) ?_
              exact ih25 ls y58 y56 (zB_w by58 (by decide) (by decide)) sMO_rooms_0_k56 sMO_table_0_k56 sMO_creaks_0_k56 (zM_us (k := 1) hm25 ry58 (by decide)) (lv_sub hl [0, 1, 2, 3, 4] rfl)
            refine lv_icmp_gt (tgt := 55) hx hb dX12_echo_43 (by decide) (fun c43 => ?_) (fun c43 => ?_)
            · have by43t_r39 : zB r39 1 10000 := zB_ltv (zl c43) bx15r1_x1 hr39 (by decide)
              refine lv_iconst (v := 0) hx hb dX12_echo_55 (by decide) ?_
              exact j56 ls 0 (zB_w (show zB 0 0 0 from ⟨by decide, by decide⟩) (by decide) (by decide)) sMO_rooms_0_k25 sMO_table_0_k25 sMO_creaks_0_k25 (lv_sub hl [0, 1, 2, 3, 4] rfl)
            · have bx43f_r39 : zB r39 0 8 := zB_leu (zg c43) hr39 bx15r1_x1 (by decide)
              refine lv_aload_n hx hb dX12_echo_46 rfl (lv_at hl 2 rfl) ?_
              refine lv_iload hx hb dX12_echo_47 (lv_at hl 0 rfl) ?_
              have hPc := hP.sub (ws' := [(MO, .inr (12, oX12 aMO MO_taped MO_size MO_faultKind MO_faultPlace MO_at MO_end MO_token MO_number MO_name MO_bank MO_rb MO_codes MO_within MO_piled MO_unitsInRule MO_askThing MO_acts MO_undone MO_laid MO_heards MO_time)), ((aMO 16), .inl (cI, 16, .inl MO_creaks))]) [0, 3] rfl
              refine vp_callSi (va_runV (As := [.int v25_4]) (rest := [.int v25_3]) ⟨hx, hb, hml, hown, hts⟩ (c_X12_creakOf l D cI cB cL cZ cG MO v25_4 aMO MO_taped MO_size MO_faultKind MO_faultPlace MO_at MO_end MO_token MO_number MO_name MO_bank MO_rb MO_codes MO_within MO_piled MO_unitsInRule MO_askThing MO_acts MO_undone MO_laid MO_heards MO_time MO_creaks bx31f_v25_4 b_MO_taped b_MO_size b_MO_faultKind b_MO_at b_MO_end b_MO_token b_MO_bank b_MO_rb b_MO_codes b_MO_within b_MO_piled b_MO_unitsInRule b_MO_askThing b_MO_acts b_MO_undone b_MO_laid b_MO_heards b_MO_time sMO_creaks_0_k25) (cwV 1 hts gX12_echo_X12_creakOf rfl rfl rfl (by decide +kernel) ⟨Nat.le_of_ble_eq_true rfl, Nat.le_of_ble_eq_true rfl⟩) ⟨xr_blind, va_recv hK hP (ci := 12) (q0 := 0) rfl rfl, fun U hU hW => xr_mk hU hW hPc hK⟩ rfl rfl hl.1 rfl (lv_room (Nat.le_of_ble_eq_true rfl)) dX12_echo_49 ⟨Nat.le_of_ble_eq_true rfl, Nat.le_of_ble_eq_true rfl⟩).run (fun r49 hr49 => ?_)
              clear hPc
              refine lv_goto (tgt := 56) hx hb dX12_echo_52 (by decide) ?_
              exact j56 ls r49 hr49 sMO_rooms_0_k25 sMO_table_0_k25 sMO_creaks_0_k25 (lv_sub hl [0, 1, 2, 3, 4] rfl)
      refine lv_istore (lv' := [(4, .int 0), (3, .int 0), (0, .ref MO), (1, .int x0), (2, .int x1)]) hx hb dX12_echo_23 hl (by decide) rfl (fun ls hl => ?_)
      exact j25 9 ls 0 0 (zB_w (show zB 0 0 0 from ⟨by decide, by decide⟩) (by decide) (by decide)) s_MO_rooms_0 s_MO_table_0 s_MO_creaks_0 (zM_ui (show zB 0 0 0 from ⟨by decide, by decide⟩) (by decide)) (lv_sub hl [0, 1, 2, 3, 4] rfl)
set_option maxHeartbeats 4000000 in
set_option maxRecDepth 100000 in
theorem c_X12_mend (l : Launch) (D : va_G) (cI : ClassId) (cB : ClassId) (cL : ClassId) (cZ : ClassId) (cG : ClassId) (MO : Nat) (x0 : Int32) (aMO : Nat → Nat) (MO_taped : Int32) (MO_size : Int32) (MO_faultKind : Int32) (MO_faultPlace : Int32) (MO_at : Int32) (MO_end : Int32) (MO_token : Int32) (MO_number : Int32) (MO_name : Int64) (MO_bank : Int32) (MO_rb : Int32) (MO_codes : Int32) (MO_within : Int32) (MO_piled : Int32) (MO_unitsInRule : Int32) (MO_askThing : Int32) (MO_acts : Int32) (MO_undone : Int32) (MO_laid : Int32) (MO_heards : Int32) (MO_time : Int32) (MO_things : Nat → Int32) (MO_all : Nat → Int32) (MO_table : Nat → Int32) (b_MO_taped : zB MO_taped 0 1600) (b_MO_size : zB MO_size 0 1600) (b_MO_faultKind : zB MO_faultKind 0 5) (b_MO_at : zB MO_at 0 1600) (b_MO_end : zB MO_end 0 1600) (b_MO_token : zB MO_token 0 5) (b_MO_bank : zB MO_bank 0 1) (b_MO_rb : zB MO_rb 0 1) (b_MO_codes : zB MO_codes 0 1120) (b_MO_within : zB MO_within 0 7) (b_MO_piled : zB MO_piled 0 89) (b_MO_unitsInRule : zB MO_unitsInRule 0 30) (b_MO_askThing : zB MO_askThing 0 5) (b_MO_acts : zB MO_acts 0 40) (b_MO_undone : zB MO_undone 0 40) (b_MO_laid : zB MO_laid 0 8) (b_MO_heards : zB MO_heards 0 30) (b_MO_time : zB MO_time 0 100000) (s_MO_things_0 : zA MO_things 0 2 0 6) (s_MO_all_0 : zA MO_all 0 12 0 7) (s_MO_table_0 : zA MO_table 0 64 0 10000) : Met l yX12_mend wsX12_mend ({ frames := 1, cells := 0, slots := 0, locals := 22 }) (xr D [(cI, .int), (cB, .byte), (cL, .long), (cZ, .boolean), (cG, .array .int)] [(MO, .inr (12, oX12 aMO MO_taped MO_size MO_faultKind MO_faultPlace MO_at MO_end MO_token MO_number MO_name MO_bank MO_rb MO_codes MO_within MO_piled MO_unitsInRule MO_askThing MO_acts MO_undone MO_laid MO_heards MO_time)), ((aMO 13), .inl (cI, 2, .inl MO_things)), ((aMO 42), .inl (cI, 32, .inl MO_all)), ((aMO 43), .inl (cI, 64, .inl MO_table))] [.ref MO, .int x0]) (vp_Si (fun r => True)) 0 0 (fun _ => False) := by
  refine Met.ofW (cc := cX12_mend) (maxL := 6) (ret := (some .int)) (by decide) rfl ?_
  intro p e s m args below meth c s₁ B hml hv
  obtain ⟨rfl, hP, hK⟩ := hv
  have hx := B.exec
  have hb := B.bytes
  have hr := B.returns
  have hts := atoms_spec (ws := wsX12_mend) B.pre
  have hown : s.vm.findClass RX12 = some m.cls := findClass_of_methodNamed B.named
  have hlocks := B.notSynchronized
  clear B
  have hl := lv_entry ([.ref MO, .int x0]) (n := 6) (Nat.le_of_ble_eq_true rfl)
  rw [lg_entry_eq]
  generalize (lg_sl ([.ref MO, .int x0]) ++ List.replicate (6 - (lg_sl ([.ref MO, .int x0])).length) Slot.unset).toArray = ls at hl ⊢
  replace hl : lv_has ls 6 [(0, .ref MO), (1, .int x0)] := hl
  refine zz_abs (R := ({ frames := 1, cells := 0, slots := 0, locals := 22 } : Room)) (fun Q up => ?_)
  refine lv_iload_n hx hb dX12_mend_0 rfl (lv_at hl 1 rfl) ?_
  refine lv_iconst (v := 0) hx hb dX12_mend_1 (by decide) ?_
  refine lv_bipush (v := 99) hx hb dX12_mend_2 (by decide) ?_
  have hPc := hP.sub (ws' := []) [] rfl
  refine vp_callSi (va_runS (As := [.int x0, .int 0, .int 99]) (rest := []) ⟨hx, hb, hml, hown, hts⟩ (c_X12_isIn l D cI cB cL cZ cG x0 0 99) (va_cwS 3 hts gX12_mend_X12_isIn rfl rfl rfl (by decide +kernel) ⟨Nat.le_of_ble_eq_true rfl, Nat.le_of_ble_eq_true rfl⟩) ⟨xr_blind, fun U hU hW => xr_mk hU hW hPc hK⟩ rfl rfl hl.1 rfl (lv_room (Nat.le_of_ble_eq_true rfl)) dX12_mend_4 ⟨Nat.le_of_ble_eq_true rfl, Nat.le_of_ble_eq_true rfl⟩).run (fun r4 hr4 => ?_)
  clear hPc
  rcases hr4 with rfl | ⟨rfl, hr4_1_0, hr4_1_1⟩
  · refine lv_if_ne (tgt := 12) hx hb dX12_mend_7 (by decide) (fun c7 => absurd (by decide) c7) (fun _ => ?_)
    refine lv_iconst (v := (-1)) hx hb dX12_mend_10 (by decide) ?_
    exact up _ _ _ (W.iret (v := (-1)) hx hb hr (fun t ht hW => ⟨(-1), rfl, trivial, ht⟩) (fun q hq => by cases hq) dX12_mend_11)
  · have by7r0_x0 : zB x0 0 2147483647 := zB_lev hr4_1_0 (show zB 0 0 0 from ⟨by decide, by decide⟩) (zB_top x0) (by decide)
    have bx7r1_x0 : zB x0 0 99 := zB_leu hr4_1_1 by7r0_x0 (show zB 99 99 99 from ⟨by decide, by decide⟩) (by decide)
    refine lv_if_ne (tgt := 12) hx hb dX12_mend_7 (by decide) (fun _ => ?_) (fun c7 => absurd c7 (by decide))
    refine lv_iload_n hx hb dX12_mend_12 rfl (lv_at hl 1 rfl) ?_
    refine lv_istore_n (lv' := [(2, .int x0), (0, .ref MO), (1, .int x0)]) hx hb dX12_mend_13 rfl hl (by decide) rfl (fun ls hl => ?_)
    refine lv_iconst (v := 0) hx hb dX12_mend_14 (by decide) ?_
    refine lv_istore_n (lv' := [(3, .int 0), (2, .int x0), (0, .ref MO), (1, .int x0)]) hx hb dX12_mend_15 rfl hl (by decide) rfl (fun ls hl => ?_)
    refine lv_iconst (v := 0) hx hb dX12_mend_16 (by decide) ?_
    have j19 : ∀ (n19 : Nat) (ls : Array Slot) (v19_4 : Int32) (v19_3 : Int32) (v19_2 : Int32), zB v19_4 0 8 → zB v19_2 (-16) 99 → zA MO_things 0 2 0 6 → zA MO_all 0 12 0 7 → zA MO_table 0 64 0 10000 → (8 + 1 - v19_4.toInt) ≤ (n19 : Int) → lv_has ls 6 [(4, .int v19_4), (3, .int v19_3), (2, .int v19_2), (0, .ref MO), (1, .int x0)] → W p l e ({ frames := 1, cells := 0, slots := 0, locals := 22 } : Room) s m ([.ref MO, .int x0] : List Value).toArray below meth c s.heap [] 0 0 Q (F0 m 19 ls []) := by
      intro n19
      induction n19 with
      | zero => intro ls v19_4 v19_3 v19_2 bv19_4_k19 bv19_2_k19 sMO_things_0_k19 sMO_all_0_k19 sMO_table_0_k19 hm19 hl; exact zM_u0 bv19_4_k19 hm19
      | succ n19 ih19 =>
        intro ls v19_4 v19_3 v19_2 bv19_4_k19 bv19_2_k19 sMO_things_0_k19 sMO_all_0_k19 sMO_table_0_k19 hm19 hl
        refine lv_iload hx hb dX12_mend_19 (lv_at hl 0 rfl) ?_
        refine lv_bipush (v := 8) hx hb dX12_mend_21 (by decide) ?_
        refine lv_icmp_ge (tgt := 95) hx hb dX12_mend_23 (by decide) (fun c23 => ?_) (fun c23 => ?_)
        · have by23t_v19_4 : zB v19_4 8 8 := zB_lev (ze c23) (show zB 8 8 8 from ⟨by decide, by decide⟩) bv19_4_k19 (by decide)
          refine lv_iload_n hx hb dX12_mend_95 rfl (lv_at hl 1 rfl) ?_
          exact up _ _ _ (W.iret (v := v19_3) hx hb hr (fun t ht hW => ⟨v19_3, rfl, trivial, ht⟩) (fun q hq => by cases hq) dX12_mend_96)
        · have bx23f_v19_4 : zB v19_4 0 7 := zB_ltu (zf c23) bv19_4_k19 (show zB 8 8 8 from ⟨by decide, by decide⟩) (by decide)
          refine lv_iconst (v := 0) hx hb dX12_mend_26 (by decide) ?_
          have j29 : ∀ (n29 : Nat) (ls : Array Slot) (v29_5 : Int32) (v29_3 : Int32) (v29_2 : Int32), zB v29_5 0 6 → zB v29_2 (-16) 99 → zA MO_things 0 2 0 6 → zA MO_all 0 12 0 7 → zA MO_table 0 64 0 10000 → (6 + 1 - v29_5.toInt) ≤ (n29 : Int) → lv_has ls 6 [(5, .int v29_5), (4, .int v19_4), (3, .int v29_3), (2, .int v29_2), (0, .ref MO), (1, .int x0)] → W p l e ({ frames := 1, cells := 0, slots := 0, locals := 22 } : Room) s m ([.ref MO, .int x0] : List Value).toArray below meth c s.heap [] 0 0 Q (F0 m 29 ls []) := by
            intro n29
            induction n29 with
            | zero => intro ls v29_5 v29_3 v29_2 bv29_5_k29 bv29_2_k29 sMO_things_0_k29 sMO_all_0_k29 sMO_table_0_k29 hm29 hl; exact zM_u0 bv29_5_k29 hm29
            | succ n29 ih29 =>
              intro ls v29_5 v29_3 v29_2 bv29_5_k29 bv29_2_k29 sMO_things_0_k29 sMO_all_0_k29 sMO_table_0_k29 hm29 hl
              refine lv_iload hx hb dX12_mend_29 (lv_at hl 0 rfl) ?_
              refine lv_aload_n hx hb dX12_mend_31 rfl (lv_at hl 4 rfl) ?_
              have hPc := hP.sub (ws' := [(MO, .inr (12, oX12 aMO MO_taped MO_size MO_faultKind MO_faultPlace MO_at MO_end MO_token MO_number MO_name MO_bank MO_rb MO_codes MO_within MO_piled MO_unitsInRule MO_askThing MO_acts MO_undone MO_laid MO_heards MO_time)), ((aMO 13), .inl (cI, 2, .inl MO_things))]) [0, 1] rfl
              refine vp_callSi (va_runV (As := []) (rest := [.int v29_5]) ⟨hx, hb, hml, hown, hts⟩ (c_X12_many l D cI cB cL cZ cG MO aMO MO_taped MO_size MO_faultKind MO_faultPlace MO_at MO_end MO_token MO_number MO_name MO_bank MO_rb MO_codes MO_within MO_piled MO_unitsInRule MO_askThing MO_acts MO_undone MO_laid MO_heards MO_time MO_things b_MO_taped b_MO_size b_MO_faultKind b_MO_at b_MO_end b_MO_token b_MO_bank b_MO_rb b_MO_codes b_MO_within b_MO_piled b_MO_unitsInRule b_MO_askThing b_MO_acts b_MO_undone b_MO_laid b_MO_heards b_MO_time sMO_things_0_k29) (cwV 0 hts gX12_mend_X12_many rfl rfl rfl (by decide +kernel) ⟨Nat.le_of_ble_eq_true rfl, Nat.le_of_ble_eq_true rfl⟩) ⟨xr_blind, va_recv hK hP (ci := 12) (q0 := 0) rfl rfl, fun U hU hW => xr_mk hU hW hPc hK⟩ rfl rfl hl.1 rfl (lv_room (Nat.le_of_ble_eq_true rfl)) dX12_mend_32 ⟨Nat.le_of_ble_eq_true rfl, Nat.le_of_ble_eq_true rfl⟩).run (fun r32 hr32 => ?_)
              obtain ⟨hr32, p32_v⟩ := hr32
              clear hPc
              refine lv_icmp_ge (tgt := 89) hx hb dX12_mend_35 (by decide) (fun c35 => ?_) (fun c35 => ?_)
              · obtain ⟨y89, by89, ry89, ey89⟩ := zi_inc (x := v19_4) (k := 1) (a := 1) (b := 8) bx23f_v19_4 (by decide) (by decide) (by decide) (by decide) (by decide)
                refine lv_iinc (v := y89) (lv' := [(4, .int y89), (5, .int v29_5), (3, .int v29_3), (2, .int v29_2), (0, .ref MO), (1, .int x0)]) hx hb dX12_mend_89 hl (k := 1) rfl ey89 (by decide) rfl (fun ls hl => ?_)
                refine lv_goto (tgt := 19) hx hb dX12_mend_92 (by decide) ?_
                exact ih19 ls y89 v29_3 v29_2 (zB_w by89 (by decide) (by decide)) bv29_2_k29 sMO_things_0_k29 sMO_all_0_k29 sMO_table_0_k29 (zM_us (k := 1) hm19 ry89 (by decide)) (lv_sub hl [0, 2, 3, 4, 5] rfl)
              · have bx35f_v29_5 : zB v29_5 0 5 := zB_ltu (zf c35) bv29_5_k29 hr32 (by decide)
                have by35f_r32 : zB r32 1 6 := zB_ltv (zf c35) bx35f_v29_5 hr32 (by decide)
                refine lv_aload_n hx hb dX12_mend_38 rfl (lv_at hl 4 rfl) ?_
                refine lv_aload_n hx hb dX12_mend_39 rfl (lv_at hl 4 rfl) ?_
                refine va_get (D := D) (ci := 12) (v := .ref (aMO 42)) (C := RX12) (T := TX12) (N := 71) hx hb hts iw_X12_mend_X12 hown hK hP 0 rfl rfl 42 (by decide) (hts (.fieldLink RX12 95 "SoldHouseModel" "all" "[I") (List.mem_of_getElem? (i := 1) rfl)) (fun _ h9 => h9) rfl dX12_mend_40 ?_
                refine lv_iconst (v := 0) hx hb dX12_mend_43 (by decide) ?_
                refine lv_iload hx hb dX12_mend_44 (lv_at hl 0 rfl) ?_
                refine lv_iadd hx hb dX12_mend_46 ?_
                refine zi_top (a := 0) (b := 5) (zB_add (show zB 0 0 0 from ⟨by decide, by decide⟩) bx35f_v29_5 (by decide) (by decide) (by decide) (by decide)) (fun y46 by46 => ?_)
                refine va_iald hx hb hK hP 2 0 rfl rfl (zB_in by46 (by decide) (by decide)) dX12_mend_47 ?_
                refine zi_top (a := 0) (b := 7) (zA_at sMO_all_0_k29 by46 (by decide) (by decide)) (fun y47 by47 => ?_)
                refine lv_aload_n hx hb dX12_mend_48 rfl (lv_at hl 4 rfl) ?_
                refine va_get (D := D) (ci := 12) (v := .ref (aMO 42)) (C := RX12) (T := TX12) (N := 71) hx hb hts iw_X12_mend_X12 hown hK hP 0 rfl rfl 42 (by decide) (hts (.fieldLink RX12 95 "SoldHouseModel" "all" "[I") (List.mem_of_getElem? (i := 1) rfl)) (fun _ h9 => h9) rfl dX12_mend_49 ?_
                refine lv_bipush (v := 6) hx hb dX12_mend_52 (by decide) ?_
                refine lv_iload hx hb dX12_mend_54 (lv_at hl 0 rfl) ?_
                refine lv_iadd hx hb dX12_mend_56 ?_
                refine zi_top (a := 6) (b := 11) (zB_add (show zB 6 6 6 from ⟨by decide, by decide⟩) bx35f_v29_5 (by decide) (by decide) (by decide) (by decide)) (fun y56 by56 => ?_)
                refine va_iald hx hb hK hP 2 0 rfl rfl (zB_in by56 (by decide) (by decide)) dX12_mend_57 ?_
                refine zi_top (a := 0) (b := 7) (zA_at sMO_all_0_k29 by56 (by decide) (by decide)) (fun y57 by57 => ?_)
                have hPc := hP.sub (ws' := [(MO, .inr (12, oX12 aMO MO_taped MO_size MO_faultKind MO_faultPlace MO_at MO_end MO_token MO_number MO_name MO_bank MO_rb MO_codes MO_within MO_piled MO_unitsInRule MO_askThing MO_acts MO_undone MO_laid MO_heards MO_time)), ((aMO 43), .inl (cI, 64, .inl MO_table))]) [0, 3] rfl
                refine vp_callSi (va_runV (As := [.int y47, .int y57]) (rest := []) ⟨hx, hb, hml, hown, hts⟩ (c_X12_farOf l D cI cB cL cZ cG MO y47 y57 aMO MO_taped MO_size MO_faultKind MO_faultPlace MO_at MO_end MO_token MO_number MO_name MO_bank MO_rb MO_codes MO_within MO_piled MO_unitsInRule MO_askThing MO_acts MO_undone MO_laid MO_heards MO_time MO_table by47 by57 b_MO_taped b_MO_size b_MO_faultKind b_MO_at b_MO_end b_MO_token b_MO_bank b_MO_rb b_MO_codes b_MO_within b_MO_piled b_MO_unitsInRule b_MO_askThing b_MO_acts b_MO_undone b_MO_laid b_MO_heards b_MO_time sMO_table_0_k29) (cwV 2 hts gX12_mend_X12_farOf rfl rfl rfl (by decide +kernel) ⟨Nat.le_of_ble_eq_true rfl, Nat.le_of_ble_eq_true rfl⟩) ⟨xr_blind, va_recv hK hP (ci := 12) (q0 := 0) rfl rfl, fun U hU hW => xr_mk hU hW hPc hK⟩ rfl rfl hl.1 rfl (lv_room (Nat.le_of_ble_eq_true rfl)) dX12_mend_58 ⟨Nat.le_of_ble_eq_true rfl, Nat.le_of_ble_eq_true rfl⟩).run (fun r58 hr58 => ?_)
                clear hPc
                refine lv_iload hx hb dX12_mend_61 (lv_at hl 1 rfl) ?_
                have j83 : ∀ (ls : Array Slot) (v83_3 : Int32) (v83_2 : Int32), zB v83_2 (-16) 99 → zA MO_things 0 2 0 6 → zA MO_all 0 12 0 7 → zA MO_table 0 64 0 10000 → lv_has ls 6 [(5, .int v29_5), (4, .int v19_4), (3, .int v83_3), (2, .int v83_2), (0, .ref MO), (1, .int x0)] → W p l e ({ frames := 1, cells := 0, slots := 0, locals := 22 } : Room) s m ([.ref MO, .int x0] : List Value).toArray below meth c s.heap [] 0 0 Q (F0 m 83 ls []) := by
                  intro ls v83_3 v83_2 bv83_2_k83 sMO_things_0_k83 sMO_all_0_k83 sMO_table_0_k83 hl
                  obtain ⟨y83, by83, ry83, ey83⟩ := zi_inc (x := v29_5) (k := 1) (a := 1) (b := 6) bx35f_v29_5 (by decide) (by decide) (by decide) (by decide) (by decide)
                  refine lv_iinc (v := y83) (lv' := [(5, .int y83), (4, .int v19_4), (3, .int v83_3), (2, .int v83_2), (0, .ref MO), (1, .int x0)]) hx hb dX12_mend_83 hl (k := 0) rfl ey83 (by decide) rfl (fun ls hl => ?_)
                  refine lv_goto (tgt := 29) hx hb dX12_mend_86 (by decide) ?_
                  exact ih29 ls y83 v83_3 v83_2 (zB_w by83 (by decide) (by decide)) bv83_2_k83 sMO_things_0_k83 sMO_all_0_k83 sMO_table_0_k83 (zM_us (k := 1) hm29 ry83 (by decide)) (lv_sub hl [0, 1, 2, 3, 4, 5] rfl)
                refine lv_icmp_ne (tgt := 83) hx hb dX12_mend_63 (by decide) (fun c63 => ?_) (fun c63 => ?_)
                · exact j83 ls v29_3 v29_2 bv29_2_k29 sMO_things_0_k29 sMO_all_0_k29 sMO_table_0_k29 (lv_sub hl [0, 1, 2, 3, 4, 5] rfl)
                · have be63f_r58 : zB r58 0 7 := zB_eq c63 hr58 bx23f_v19_4 (by decide) (by decide)
                  refine lv_iload hx hb dX12_mend_66 (lv_at hl 1 rfl) ?_
                  refine lv_iload_n hx hb dX12_mend_68 rfl (lv_at hl 3 rfl) ?_
                  refine lv_icmp_le (tgt := 75) hx hb dX12_mend_69 (by decide) (fun c69 => ?_) (fun c69 => ?_)
                  · have by69t_v29_2 : zB v29_2 0 99 := zB_lev (ze c69) bx23f_v19_4 bv29_2_k29 (by decide)
                    refine lv_iload_n hx hb dX12_mend_75 rfl (lv_at hl 3 rfl) ?_
                    refine lv_iload hx hb dX12_mend_76 (lv_at hl 1 rfl) ?_
                    refine lv_isub hx hb dX12_mend_78 ?_
                    refine zi_top (a := (-7)) (b := 99) (zB_sub by69t_v29_2 bx23f_v19_4 (by decide) (by decide) (by decide) (by decide)) (fun y78 by78 => ?_)
                    refine lv_istore_n (lv' := [(2, .int y78), (5, .int v29_5), (4, .int v19_4), (3, .int v29_3), (0, .ref MO), (1, .int x0)]) hx hb dX12_mend_79 rfl hl (by decide) rfl (fun ls hl => ?_)
                    obtain ⟨y80, ey80⟩ : ∃ y : Int32, v29_3 + Int32.ofInt 1 = y := ⟨_, rfl⟩
                    refine lv_iinc (v := y80) (lv' := [(3, .int y80), (2, .int y78), (5, .int v29_5), (4, .int v19_4), (0, .ref MO), (1, .int x0)]) hx hb dX12_mend_80 hl (k := 3) rfl ey80 (by decide) rfl (fun ls hl => ?_)
                    exact j83 ls y80 y78 (zB_w by78 (by decide) (by decide)) sMO_things_0_k29 sMO_all_0_k29 sMO_table_0_k29 (lv_sub hl [2, 3, 0, 1, 4, 5] rfl)
                  · have bx69f_v29_2 : zB v29_2 (-16) 6 := zB_ltu (zf c69) bv29_2_k29 bx23f_v19_4 (by decide)
                    refine lv_goto (tgt := 83) hx hb dX12_mend_72 (by decide) ?_
                    exact j83 ls v29_3 v29_2 (zB_w bx69f_v29_2 (by decide) (by decide)) sMO_things_0_k29 sMO_all_0_k29 sMO_table_0_k29 (lv_sub hl [0, 1, 2, 3, 4, 5] rfl)
          refine lv_istore (lv' := [(5, .int 0), (4, .int v19_4), (3, .int v19_3), (2, .int v19_2), (0, .ref MO), (1, .int x0)]) hx hb dX12_mend_27 hl (by decide) rfl (fun ls hl => ?_)
          exact j29 7 ls 0 v19_3 v19_2 (zB_w (show zB 0 0 0 from ⟨by decide, by decide⟩) (by decide) (by decide)) bv19_2_k19 sMO_things_0_k19 sMO_all_0_k19 sMO_table_0_k19 (zM_ui (show zB 0 0 0 from ⟨by decide, by decide⟩) (by decide)) (lv_sub hl [0, 1, 2, 3, 4, 5] rfl)
    refine lv_istore (lv' := [(4, .int 0), (3, .int 0), (2, .int x0), (0, .ref MO), (1, .int x0)]) hx hb dX12_mend_17 hl (by decide) rfl (fun ls hl => ?_)
    exact j19 9 ls 0 0 x0 (zB_w (show zB 0 0 0 from ⟨by decide, by decide⟩) (by decide) (by decide)) (zB_w bx7r1_x0 (by decide) (by decide)) s_MO_things_0 s_MO_all_0 s_MO_table_0 (zM_ui (show zB 0 0 0 from ⟨by decide, by decide⟩) (by decide)) (lv_sub hl [0, 1, 2, 3, 4] rfl)
set_option maxHeartbeats 4000000 in
set_option maxRecDepth 100000 in
theorem c_X12_worthOf (l : Launch) (D : va_G) (cI : ClassId) (cB : ClassId) (cL : ClassId) (cZ : ClassId) (cG : ClassId) (MO : Nat) (x0 : Int32) (x1 : Int32) (aMO : Nat → Nat) (MO_taped : Int32) (MO_size : Int32) (MO_faultKind : Int32) (MO_faultPlace : Int32) (MO_at : Int32) (MO_end : Int32) (MO_token : Int32) (MO_number : Int32) (MO_name : Int64) (MO_bank : Int32) (MO_rb : Int32) (MO_codes : Int32) (MO_within : Int32) (MO_piled : Int32) (MO_unitsInRule : Int32) (MO_askThing : Int32) (MO_acts : Int32) (MO_undone : Int32) (MO_laid : Int32) (MO_heards : Int32) (MO_time : Int32) (MO_toThem : Nat → Int32) (MO_toUs : Nat → Int32) (b_x0 : zB x0 0 5) (b_MO_taped : zB MO_taped 0 1600) (b_MO_size : zB MO_size 0 1600) (b_MO_faultKind : zB MO_faultKind 0 5) (b_MO_at : zB MO_at 0 1600) (b_MO_end : zB MO_end 0 1600) (b_MO_token : zB MO_token 0 5) (b_MO_bank : zB MO_bank 0 1) (b_MO_rb : zB MO_rb 0 1) (b_MO_codes : zB MO_codes 0 1120) (b_MO_within : zB MO_within 0 7) (b_MO_piled : zB MO_piled 0 89) (b_MO_unitsInRule : zB MO_unitsInRule 0 30) (b_MO_askThing : zB MO_askThing 0 5) (b_MO_acts : zB MO_acts 0 40) (b_MO_undone : zB MO_undone 0 40) (b_MO_laid : zB MO_laid 0 8) (b_MO_heards : zB MO_heards 0 30) (b_MO_time : zB MO_time 0 100000) : Met l yX12_worthOf wsX12_worthOf ({ frames := 0, cells := 0, slots := 0, locals := 0 }) (xr D [(cI, .int), (cB, .byte), (cL, .long), (cZ, .boolean), (cG, .array .int)] [(MO, .inr (12, oX12 aMO MO_taped MO_size MO_faultKind MO_faultPlace MO_at MO_end MO_token MO_number MO_name MO_bank MO_rb MO_codes MO_within MO_piled MO_unitsInRule MO_askThing MO_acts MO_undone MO_laid MO_heards MO_time)), ((aMO 23), .inl (cI, 12, .inl MO_toThem)), ((aMO 22), .inl (cI, 12, .inl MO_toUs))] [.ref MO, .int x0, .int x1]) (vp_Si (fun r => True)) 0 0 (fun _ => False) := by
  refine Met.ofW (cc := cX12_worthOf) (maxL := 3) (ret := (some .int)) (by decide) rfl ?_
  intro p e s m args below meth c s₁ B hml hv
  obtain ⟨rfl, hP, hK⟩ := hv
  have hx := B.exec
  have hb := B.bytes
  have hr := B.returns
  have hts := atoms_spec (ws := wsX12_worthOf) B.pre
  have hown : s.vm.findClass RX12 = some m.cls := findClass_of_methodNamed B.named
  have hlocks := B.notSynchronized
  clear B
  have hl := lv_entry ([.ref MO, .int x0, .int x1]) (n := 3) (Nat.le_of_ble_eq_true rfl)
  rw [lg_entry_eq]
  generalize (lg_sl ([.ref MO, .int x0, .int x1]) ++ List.replicate (3 - (lg_sl ([.ref MO, .int x0, .int x1])).length) Slot.unset).toArray = ls at hl ⊢
  replace hl : lv_has ls 3 [(0, .ref MO), (1, .int x0), (2, .int x1)] := hl
  refine lv_iload_n hx hb dX12_worthOf_0 rfl (lv_at hl 2 rfl) ?_
  refine lv_if_ne (tgt := 21) hx hb dX12_worthOf_1 (by decide) (fun c1 => ?_) (fun c1 => ?_)
  · refine lv_aload_n hx hb dX12_worthOf_21 rfl (lv_at hl 0 rfl) ?_
    refine va_get (D := D) (ci := 12) (v := .ref (aMO 23)) (C := RX12) (T := TX12) (N := 71) hx hb hts iw_X12_worthOf_X12 hown hK hP 0 rfl rfl 23 (by decide) (hts (.fieldLink RX12 57 "SoldHouseModel" "toThem" "[I") (List.mem_of_getElem? (i := 3) rfl)) (fun _ h9 => h9) rfl dX12_worthOf_22 ?_
    refine lv_bipush (v := 6) hx hb dX12_worthOf_25 (by decide) ?_
    refine lv_aload_n hx hb dX12_worthOf_27 rfl (lv_at hl 0 rfl) ?_
    refine va_get (D := D) (ci := 12) (v := .int MO_bank) (C := RX12) (T := TX12) (N := 71) hx hb hts iw_X12_worthOf_X12 hown hK hP 0 rfl rfl 35 (by decide) (hts (.fieldLink RX12 280 "SoldHouseModel" "bank" "I") (List.mem_of_getElem? (i := 2) rfl)) (fun _ h9 => h9) rfl dX12_worthOf_28 ?_
    refine lv_imul hx hb dX12_worthOf_31 ?_
    refine zi_top (a := 0) (b := 6) (zB_mul (show zB 6 6 6 from ⟨by decide, by decide⟩) b_MO_bank (by decide) (by decide) (by decide) (by decide) (by decide)) (fun y31 by31 => ?_)
    refine lv_iload_n hx hb dX12_worthOf_32 rfl (lv_at hl 1 rfl) ?_
    refine lv_iadd hx hb dX12_worthOf_33 ?_
    refine zi_top (a := 0) (b := 11) (zB_add by31 b_x0 (by decide) (by decide) (by decide) (by decide)) (fun y33 by33 => ?_)
    refine va_iald hx hb hK hP 1 0 rfl rfl (zB_in by33 (by decide) (by decide)) dX12_worthOf_34 ?_
    refine lv_topi (fun y34 _ => ?_)
    exact W.iret (v := y34) hx hb hr (fun t ht hW => ⟨y34, rfl, trivial, ht⟩) (fun q hq => by cases hq) dX12_worthOf_35
  · have be1f_x1 : zB x1 0 0 := zB_eq c1 (zB_top x1) (show zB 0 0 0 from ⟨by decide, by decide⟩) (by decide) (by decide)
    refine lv_aload_n hx hb dX12_worthOf_4 rfl (lv_at hl 0 rfl) ?_
    refine va_get (D := D) (ci := 12) (v := .ref (aMO 22)) (C := RX12) (T := TX12) (N := 71) hx hb hts iw_X12_worthOf_X12 hown hK hP 0 rfl rfl 22 (by decide) (hts (.fieldLink RX12 54 "SoldHouseModel" "toUs" "[I") (List.mem_of_getElem? (i := 1) rfl)) (fun _ h9 => h9) rfl dX12_worthOf_5 ?_
    refine lv_bipush (v := 6) hx hb dX12_worthOf_8 (by decide) ?_
    refine lv_aload_n hx hb dX12_worthOf_10 rfl (lv_at hl 0 rfl) ?_
    refine va_get (D := D) (ci := 12) (v := .int MO_bank) (C := RX12) (T := TX12) (N := 71) hx hb hts iw_X12_worthOf_X12 hown hK hP 0 rfl rfl 35 (by decide) (hts (.fieldLink RX12 280 "SoldHouseModel" "bank" "I") (List.mem_of_getElem? (i := 2) rfl)) (fun _ h9 => h9) rfl dX12_worthOf_11 ?_
    refine lv_imul hx hb dX12_worthOf_14 ?_
    refine zi_top (a := 0) (b := 6) (zB_mul (show zB 6 6 6 from ⟨by decide, by decide⟩) b_MO_bank (by decide) (by decide) (by decide) (by decide) (by decide)) (fun y14 by14 => ?_)
    refine lv_iload_n hx hb dX12_worthOf_15 rfl (lv_at hl 1 rfl) ?_
    refine lv_iadd hx hb dX12_worthOf_16 ?_
    refine zi_top (a := 0) (b := 11) (zB_add by14 b_x0 (by decide) (by decide) (by decide) (by decide)) (fun y16 by16 => ?_)
    refine va_iald hx hb hK hP 2 0 rfl rfl (zB_in by16 (by decide) (by decide)) dX12_worthOf_17 ?_
    refine lv_topi (fun y17 _ => ?_)
    refine lv_goto (tgt := 35) hx hb dX12_worthOf_18 (by decide) ?_
    exact W.iret (v := y17) hx hb hr (fun t ht hW => ⟨y17, rfl, trivial, ht⟩) (fun q hq => by cases hq) dX12_worthOf_35
set_option maxHeartbeats 4000000 in
set_option maxRecDepth 100000 in
theorem c_X12_regret (l : Launch) (D : va_G) (cI : ClassId) (cB : ClassId) (cL : ClassId) (cZ : ClassId) (cG : ClassId) (MO : Nat) (aMO : Nat → Nat) (MO_taped : Int32) (MO_size : Int32) (MO_faultKind : Int32) (MO_faultPlace : Int32) (MO_at : Int32) (MO_end : Int32) (MO_token : Int32) (MO_number : Int32) (MO_name : Int64) (MO_bank : Int32) (MO_rb : Int32) (MO_codes : Int32) (MO_within : Int32) (MO_piled : Int32) (MO_unitsInRule : Int32) (MO_askThing : Int32) (MO_acts : Int32) (MO_undone : Int32) (MO_laid : Int32) (MO_heards : Int32) (MO_time : Int32) (MO_things : Nat → Int32) (MO_all : Nat → Int32) (MO_toThem : Nat → Int32) (MO_toUs : Nat → Int32) (b_MO_taped : zB MO_taped 0 1600) (b_MO_size : zB MO_size 0 1600) (b_MO_faultKind : zB MO_faultKind 0 5) (b_MO_at : zB MO_at 0 1600) (b_MO_end : zB MO_end 0 1600) (b_MO_token : zB MO_token 0 5) (b_MO_bank : zB MO_bank 0 1) (b_MO_rb : zB MO_rb 0 1) (b_MO_codes : zB MO_codes 0 1120) (b_MO_within : zB MO_within 0 7) (b_MO_piled : zB MO_piled 0 89) (b_MO_unitsInRule : zB MO_unitsInRule 0 30) (b_MO_askThing : zB MO_askThing 0 5) (b_MO_acts : zB MO_acts 0 40) (b_MO_undone : zB MO_undone 0 40) (b_MO_laid : zB MO_laid 0 8) (b_MO_heards : zB MO_heards 0 30) (b_MO_time : zB MO_time 0 100000) (s_MO_things_0 : zA MO_things 0 2 0 6) (s_MO_all_0 : zA MO_all 0 12 0 7) : Met l yX12_regret wsX12_regret ({ frames := 1, cells := 0, slots := 0, locals := 22 }) (xr D [(cI, .int), (cB, .byte), (cL, .long), (cZ, .boolean), (cG, .array .int)] [(MO, .inr (12, oX12 aMO MO_taped MO_size MO_faultKind MO_faultPlace MO_at MO_end MO_token MO_number MO_name MO_bank MO_rb MO_codes MO_within MO_piled MO_unitsInRule MO_askThing MO_acts MO_undone MO_laid MO_heards MO_time)), ((aMO 13), .inl (cI, 2, .inl MO_things)), ((aMO 42), .inl (cI, 32, .inl MO_all)), ((aMO 23), .inl (cI, 12, .inl MO_toThem)), ((aMO 22), .inl (cI, 12, .inl MO_toUs))] [.ref MO]) (vp_Si (fun r => zB r 0 63)) 0 0 (fun _ => False) := by
  refine Met.ofW (cc := cX12_regret) (maxL := 3) (ret := (some .int)) (by decide) rfl ?_
  intro p e s m args below meth c s₁ B hml hv
  obtain ⟨rfl, hP, hK⟩ := hv
  have hx := B.exec
  have hb := B.bytes
  have hr := B.returns
  have hts := atoms_spec (ws := wsX12_regret) B.pre
  have hown : s.vm.findClass RX12 = some m.cls := findClass_of_methodNamed B.named
  have hlocks := B.notSynchronized
  clear B
  have hl := lv_entry ([.ref MO]) (n := 3) (Nat.le_of_ble_eq_true rfl)
  rw [lg_entry_eq]
  generalize (lg_sl ([.ref MO]) ++ List.replicate (3 - (lg_sl ([.ref MO])).length) Slot.unset).toArray = ls at hl ⊢
  replace hl : lv_has ls 3 [(0, .ref MO)] := hl
  refine zz_abs (R := ({ frames := 1, cells := 0, slots := 0, locals := 22 } : Room)) (fun Q up => ?_)
  refine lv_iconst (v := 0) hx hb dX12_regret_0 (by decide) ?_
  refine lv_istore_n (lv' := [(1, .int 0), (0, .ref MO)]) hx hb dX12_regret_1 rfl hl (by decide) rfl (fun ls hl => ?_)
  refine lv_iconst (v := 0) hx hb dX12_regret_2 (by decide) ?_
  have j4 : ∀ (n4 : Nat) (ls : Array Slot) (v4_2 : Int32) (v4_1 : Int32), zB v4_2 0 6 → zB v4_1 0 63 → zA MO_things 0 2 0 6 → zA MO_all 0 12 0 7 → (6 + 1 - v4_2.toInt) ≤ (n4 : Int) → lv_has ls 3 [(2, .int v4_2), (1, .int v4_1), (0, .ref MO)] → W p l e ({ frames := 1, cells := 0, slots := 0, locals := 22 } : Room) s m ([.ref MO] : List Value).toArray below meth c s.heap [] 0 0 Q (F0 m 4 ls []) := by
    intro n4
    induction n4 with
    | zero => intro ls v4_2 v4_1 bv4_2_k4 bv4_1_k4 sMO_things_0_k4 sMO_all_0_k4 hm4 hl; exact zM_u0 bv4_2_k4 hm4
    | succ n4 ih4 =>
      intro ls v4_2 v4_1 bv4_2_k4 bv4_1_k4 sMO_things_0_k4 sMO_all_0_k4 hm4 hl
      refine lv_iload_n hx hb dX12_regret_4 rfl (lv_at hl 0 rfl) ?_
      refine lv_aload_n hx hb dX12_regret_5 rfl (lv_at hl 2 rfl) ?_
      have hPc := hP.sub (ws' := [(MO, .inr (12, oX12 aMO MO_taped MO_size MO_faultKind MO_faultPlace MO_at MO_end MO_token MO_number MO_name MO_bank MO_rb MO_codes MO_within MO_piled MO_unitsInRule MO_askThing MO_acts MO_undone MO_laid MO_heards MO_time)), ((aMO 13), .inl (cI, 2, .inl MO_things))]) [0, 1] rfl
      refine vp_callSi (va_runV (As := []) (rest := [.int v4_2]) ⟨hx, hb, hml, hown, hts⟩ (c_X12_many l D cI cB cL cZ cG MO aMO MO_taped MO_size MO_faultKind MO_faultPlace MO_at MO_end MO_token MO_number MO_name MO_bank MO_rb MO_codes MO_within MO_piled MO_unitsInRule MO_askThing MO_acts MO_undone MO_laid MO_heards MO_time MO_things b_MO_taped b_MO_size b_MO_faultKind b_MO_at b_MO_end b_MO_token b_MO_bank b_MO_rb b_MO_codes b_MO_within b_MO_piled b_MO_unitsInRule b_MO_askThing b_MO_acts b_MO_undone b_MO_laid b_MO_heards b_MO_time sMO_things_0_k4) (cwV 0 hts gX12_regret_X12_many rfl rfl rfl (by decide +kernel) ⟨Nat.le_of_ble_eq_true rfl, Nat.le_of_ble_eq_true rfl⟩) ⟨xr_blind, va_recv hK hP (ci := 12) (q0 := 0) rfl rfl, fun U hU hW => xr_mk hU hW hPc hK⟩ rfl rfl hl.1 rfl (lv_room (Nat.le_of_ble_eq_true rfl)) dX12_regret_6 ⟨Nat.le_of_ble_eq_true rfl, Nat.le_of_ble_eq_true rfl⟩).run (fun r6 hr6 => ?_)
      obtain ⟨hr6, p6_v⟩ := hr6
      clear hPc
      refine lv_icmp_ge (tgt := 57) hx hb dX12_regret_9 (by decide) (fun c9 => ?_) (fun c9 => ?_)
      · refine lv_iload_n hx hb dX12_regret_57 rfl (lv_at hl 1 rfl) ?_
        exact up _ _ _ (W.iret (v := v4_1) hx hb hr (fun t ht hW => ⟨v4_1, rfl, bv4_1_k4, ht⟩) (fun q hq => by cases hq) dX12_regret_58)
      · have bx9f_v4_2 : zB v4_2 0 5 := zB_ltu (zf c9) bv4_2_k4 hr6 (by decide)
        have by9f_r6 : zB r6 1 6 := zB_ltv (zf c9) bx9f_v4_2 hr6 (by decide)
        refine lv_aload_n hx hb dX12_regret_12 rfl (lv_at hl 2 rfl) ?_
        refine lv_iload_n hx hb dX12_regret_13 rfl (lv_at hl 0 rfl) ?_
        refine lv_aload_n hx hb dX12_regret_14 rfl (lv_at hl 2 rfl) ?_
        refine va_get (D := D) (ci := 12) (v := .ref (aMO 42)) (C := RX12) (T := TX12) (N := 71) hx hb hts iw_X12_regret_X12 hown hK hP 0 rfl rfl 42 (by decide) (hts (.fieldLink RX12 95 "SoldHouseModel" "all" "[I") (List.mem_of_getElem? (i := 1) rfl)) (fun _ h9 => h9) rfl dX12_regret_15 ?_
        refine lv_bipush (v := 12) hx hb dX12_regret_18 (by decide) ?_
        refine lv_iload_n hx hb dX12_regret_20 rfl (lv_at hl 0 rfl) ?_
        refine lv_iadd hx hb dX12_regret_21 ?_
        refine zi_top (a := 12) (b := 17) (zB_add (show zB 12 12 12 from ⟨by decide, by decide⟩) bx9f_v4_2 (by decide) (by decide) (by decide) (by decide)) (fun y21 by21 => ?_)
        refine va_iald hx hb hK hP 2 0 rfl rfl (zB_in by21 (by decide) (by decide)) dX12_regret_22 ?_
        refine lv_topi (fun y22 _ => ?_)
        have hPc := hP.sub (ws' := [(MO, .inr (12, oX12 aMO MO_taped MO_size MO_faultKind MO_faultPlace MO_at MO_end MO_token MO_number MO_name MO_bank MO_rb MO_codes MO_within MO_piled MO_unitsInRule MO_askThing MO_acts MO_undone MO_laid MO_heards MO_time)), ((aMO 23), .inl (cI, 12, .inl MO_toThem)), ((aMO 22), .inl (cI, 12, .inl MO_toUs))]) [0, 3, 4] rfl
        refine vp_callSi (va_runV (As := [.int v4_2, .int y22]) (rest := []) ⟨hx, hb, hml, hown, hts⟩ (c_X12_worthOf l D cI cB cL cZ cG MO v4_2 y22 aMO MO_taped MO_size MO_faultKind MO_faultPlace MO_at MO_end MO_token MO_number MO_name MO_bank MO_rb MO_codes MO_within MO_piled MO_unitsInRule MO_askThing MO_acts MO_undone MO_laid MO_heards MO_time MO_toThem MO_toUs bx9f_v4_2 b_MO_taped b_MO_size b_MO_faultKind b_MO_at b_MO_end b_MO_token b_MO_bank b_MO_rb b_MO_codes b_MO_within b_MO_piled b_MO_unitsInRule b_MO_askThing b_MO_acts b_MO_undone b_MO_laid b_MO_heards b_MO_time) (cwV 2 hts gX12_regret_X12_worthOf rfl rfl rfl (by decide +kernel) ⟨Nat.le_of_ble_eq_true rfl, Nat.le_of_ble_eq_true rfl⟩) ⟨xr_blind, va_recv hK hP (ci := 12) (q0 := 0) rfl rfl, fun U hU hW => xr_mk hU hW hPc hK⟩ rfl rfl hl.1 rfl (lv_room (Nat.le_of_ble_eq_true rfl)) dX12_regret_23 ⟨Nat.le_of_ble_eq_true rfl, Nat.le_of_ble_eq_true rfl⟩).run (fun r23 hr23 => ?_)
        clear hPc
        clear hr23
        refine lv_aload_n hx hb dX12_regret_26 rfl (lv_at hl 2 rfl) ?_
        refine lv_iload_n hx hb dX12_regret_27 rfl (lv_at hl 0 rfl) ?_
        refine lv_iconst (v := 1) hx hb dX12_regret_28 (by decide) ?_
        refine lv_aload_n hx hb dX12_regret_29 rfl (lv_at hl 2 rfl) ?_
        refine va_get (D := D) (ci := 12) (v := .ref (aMO 42)) (C := RX12) (T := TX12) (N := 71) hx hb hts iw_X12_regret_X12 hown hK hP 0 rfl rfl 42 (by decide) (hts (.fieldLink RX12 95 "SoldHouseModel" "all" "[I") (List.mem_of_getElem? (i := 1) rfl)) (fun _ h9 => h9) rfl dX12_regret_30 ?_
        refine lv_bipush (v := 12) hx hb dX12_regret_33 (by decide) ?_
        refine lv_iload_n hx hb dX12_regret_35 rfl (lv_at hl 0 rfl) ?_
        refine lv_iadd hx hb dX12_regret_36 ?_
        refine zi_top (a := 12) (b := 17) (zB_add (show zB 12 12 12 from ⟨by decide, by decide⟩) bx9f_v4_2 (by decide) (by decide) (by decide) (by decide)) (fun y36 by36 => ?_)
        refine va_iald hx hb hK hP 2 0 rfl rfl (zB_in by36 (by decide) (by decide)) dX12_regret_37 ?_
        refine lv_topi (fun y37 _ => ?_)
        refine lv_isub hx hb dX12_regret_38 ?_
        refine lv_topi (fun y38 _ => ?_)
        have hPc := hP.sub (ws' := [(MO, .inr (12, oX12 aMO MO_taped MO_size MO_faultKind MO_faultPlace MO_at MO_end MO_token MO_number MO_name MO_bank MO_rb MO_codes MO_within MO_piled MO_unitsInRule MO_askThing MO_acts MO_undone MO_laid MO_heards MO_time)), ((aMO 23), .inl (cI, 12, .inl MO_toThem)), ((aMO 22), .inl (cI, 12, .inl MO_toUs))]) [0, 3, 4] rfl
        refine vp_callSi (va_runV (As := [.int v4_2, .int y38]) (rest := [.int r23]) ⟨hx, hb, hml, hown, hts⟩ (c_X12_worthOf l D cI cB cL cZ cG MO v4_2 y38 aMO MO_taped MO_size MO_faultKind MO_faultPlace MO_at MO_end MO_token MO_number MO_name MO_bank MO_rb MO_codes MO_within MO_piled MO_unitsInRule MO_askThing MO_acts MO_undone MO_laid MO_heards MO_time MO_toThem MO_toUs bx9f_v4_2 b_MO_taped b_MO_size b_MO_faultKind b_MO_at b_MO_end b_MO_token b_MO_bank b_MO_rb b_MO_codes b_MO_within b_MO_piled b_MO_unitsInRule b_MO_askThing b_MO_acts b_MO_undone b_MO_laid b_MO_heards b_MO_time) (cwV 2 hts gX12_regret_X12_worthOf rfl rfl rfl (by decide +kernel) ⟨Nat.le_of_ble_eq_true rfl, Nat.le_of_ble_eq_true rfl⟩) ⟨xr_blind, va_recv hK hP (ci := 12) (q0 := 0) rfl rfl, fun U hU hW => xr_mk hU hW hPc hK⟩ rfl rfl hl.1 rfl (lv_room (Nat.le_of_ble_eq_true rfl)) dX12_regret_39 ⟨Nat.le_of_ble_eq_true rfl, Nat.le_of_ble_eq_true rfl⟩).run (fun r39 hr39 => ?_)
        clear hPc
        clear hr39
        have j51 : ∀ (ls : Array Slot) (v51_1 : Int32), zB v51_1 0 63 → zA MO_things 0 2 0 6 → zA MO_all 0 12 0 7 → lv_has ls 3 [(2, .int v4_2), (1, .int v51_1), (0, .ref MO)] → W p l e ({ frames := 1, cells := 0, slots := 0, locals := 22 } : Room) s m ([.ref MO] : List Value).toArray below meth c s.heap [] 0 0 Q (F0 m 51 ls []) := by
          intro ls v51_1 bv51_1_k51 sMO_things_0_k51 sMO_all_0_k51 hl
          obtain ⟨y51, by51, ry51, ey51⟩ := zi_inc (x := v4_2) (k := 1) (a := 1) (b := 6) bx9f_v4_2 (by decide) (by decide) (by decide) (by decide) (by decide)
          refine lv_iinc (v := y51) (lv' := [(2, .int y51), (1, .int v51_1), (0, .ref MO)]) hx hb dX12_regret_51 hl (k := 0) rfl ey51 (by decide) rfl (fun ls hl => ?_)
          refine lv_goto (tgt := 4) hx hb dX12_regret_54 (by decide) ?_
          exact ih4 ls y51 v51_1 (zB_w by51 (by decide) (by decide)) bv51_1_k51 sMO_things_0_k51 sMO_all_0_k51 (zM_us (k := 1) hm4 ry51 (by decide)) (lv_sub hl [0, 1, 2] rfl)
        refine lv_icmp_le (tgt := 51) hx hb dX12_regret_42 (by decide) (fun c42 => ?_) (fun c42 => ?_)
        · exact j51 ls v4_1 bv4_1_k4 sMO_things_0_k4 sMO_all_0_k4 (lv_sub hl [0, 1, 2] rfl)
        · have bx42f_r39 : zB r39 (-2147483648) 2147483646 := zB_ltu (zf c42) (zB_top r39) (zB_top r23) (by decide)
          have by42f_r23 : zB r23 (-2147483647) 2147483647 := zB_ltv (zf c42) bx42f_r39 (zB_top r23) (by decide)
          refine lv_iload_n hx hb dX12_regret_45 rfl (lv_at hl 1 rfl) ?_
          refine lv_iconst (v := 1) hx hb dX12_regret_46 (by decide) ?_
          refine lv_iload_n hx hb dX12_regret_47 rfl (lv_at hl 0 rfl) ?_
          refine lv_ishl hx hb dX12_regret_48 ?_
          refine zi_top (a := 1) (b := 32) (zB_shl1 bx9f_v4_2 (by decide) (by decide) (by decide) (by decide)) (fun y48 by48 => ?_)
          refine lv_ior hx hb dX12_regret_49 ?_
          refine zi_top (a := 1) (b := 63) (zB_or 6 bv4_1_k4 by48 (by decide) (by decide) (by decide) (by decide) (by decide) (by decide) (by decide)) (fun y49 by49 => ?_)
          refine lv_istore_n (lv' := [(1, .int y49), (2, .int v4_2), (0, .ref MO)]) hx hb dX12_regret_50 rfl hl (by decide) rfl (fun ls hl => ?_)
          exact j51 ls y49 (zB_w by49 (by decide) (by decide)) sMO_things_0_k4 sMO_all_0_k4 (lv_sub hl [1, 0, 2] rfl)
  refine lv_istore_n (lv' := [(2, .int 0), (1, .int 0), (0, .ref MO)]) hx hb dX12_regret_3 rfl hl (by decide) rfl (fun ls hl => ?_)
  exact j4 7 ls 0 0 (zB_w (show zB 0 0 0 from ⟨by decide, by decide⟩) (by decide) (by decide)) (zB_w (show zB 0 0 0 from ⟨by decide, by decide⟩) (by decide) (by decide)) s_MO_things_0 s_MO_all_0 (zM_ui (show zB 0 0 0 from ⟨by decide, by decide⟩) (by decide)) (lv_sub hl [0, 1, 2] rfl)
set_option maxHeartbeats 4000000 in
set_option maxRecDepth 100000 in
theorem c_X12_gainOf (l : Launch) (D : va_G) (cI : ClassId) (cB : ClassId) (cL : ClassId) (cZ : ClassId) (cG : ClassId) (MO : Nat) (x0 : Int32) (x1 : Int32) (aMO : Nat → Nat) (MO_taped : Int32) (MO_size : Int32) (MO_faultKind : Int32) (MO_faultPlace : Int32) (MO_at : Int32) (MO_end : Int32) (MO_token : Int32) (MO_number : Int32) (MO_name : Int64) (MO_bank : Int32) (MO_rb : Int32) (MO_codes : Int32) (MO_within : Int32) (MO_piled : Int32) (MO_unitsInRule : Int32) (MO_askThing : Int32) (MO_acts : Int32) (MO_undone : Int32) (MO_laid : Int32) (MO_heards : Int32) (MO_time : Int32) (MO_all : Nat → Int32) (MO_toThem : Nat → Int32) (MO_toUs : Nat → Int32) (b_x0 : zB x0 0 5) (b_x1 : zB x1 0 5) (b_MO_taped : zB MO_taped 0 1600) (b_MO_size : zB MO_size 0 1600) (b_MO_faultKind : zB MO_faultKind 0 5) (b_MO_at : zB MO_at 0 1600) (b_MO_end : zB MO_end 0 1600) (b_MO_token : zB MO_token 0 5) (b_MO_bank : zB MO_bank 0 1) (b_MO_rb : zB MO_rb 0 1) (b_MO_codes : zB MO_codes 0 1120) (b_MO_within : zB MO_within 0 7) (b_MO_piled : zB MO_piled 0 89) (b_MO_unitsInRule : zB MO_unitsInRule 0 30) (b_MO_askThing : zB MO_askThing 0 5) (b_MO_acts : zB MO_acts 0 40) (b_MO_undone : zB MO_undone 0 40) (b_MO_laid : zB MO_laid 0 8) (b_MO_heards : zB MO_heards 0 30) (b_MO_time : zB MO_time 0 100000) (s_MO_all_0 : zA MO_all 0 12 0 7) : Met l yX12_gainOf wsX12_gainOf ({ frames := 1, cells := 0, slots := 0, locals := 22 }) (xr D [(cI, .int), (cB, .byte), (cL, .long), (cZ, .boolean), (cG, .array .int)] [(MO, .inr (12, oX12 aMO MO_taped MO_size MO_faultKind MO_faultPlace MO_at MO_end MO_token MO_number MO_name MO_bank MO_rb MO_codes MO_within MO_piled MO_unitsInRule MO_askThing MO_acts MO_undone MO_laid MO_heards MO_time)), ((aMO 42), .inl (cI, 32, .inl MO_all)), ((aMO 23), .inl (cI, 12, .inl MO_toThem)), ((aMO 22), .inl (cI, 12, .inl MO_toUs))] [.ref MO, .int x0, .int x1]) (vp_Si (fun r => True)) 0 0 (fun _ => False) := by
  refine Met.ofW (cc := cX12_gainOf) (maxL := 5) (ret := (some .int)) (by decide) rfl ?_
  intro p e s m args below meth c s₁ B hml hv
  obtain ⟨rfl, hP, hK⟩ := hv
  have hx := B.exec
  have hb := B.bytes
  have hr := B.returns
  have hts := atoms_spec (ws := wsX12_gainOf) B.pre
  have hown : s.vm.findClass RX12 = some m.cls := findClass_of_methodNamed B.named
  have hlocks := B.notSynchronized
  clear B
  have hl := lv_entry ([.ref MO, .int x0, .int x1]) (n := 5) (Nat.le_of_ble_eq_true rfl)
  rw [lg_entry_eq]
  generalize (lg_sl ([.ref MO, .int x0, .int x1]) ++ List.replicate (5 - (lg_sl ([.ref MO, .int x0, .int x1])).length) Slot.unset).toArray = ls at hl ⊢
  replace hl : lv_has ls 5 [(0, .ref MO), (1, .int x0), (2, .int x1)] := hl
  refine lv_aload_n hx hb dX12_gainOf_0 rfl (lv_at hl 0 rfl) ?_
  refine va_get (D := D) (ci := 12) (v := .ref (aMO 42)) (C := RX12) (T := TX12) (N := 71) hx hb hts iw_X12_gainOf_X12 hown hK hP 0 rfl rfl 42 (by decide) (hts (.fieldLink RX12 95 "SoldHouseModel" "all" "[I") (List.mem_of_getElem? (i := 1) rfl)) (fun _ h9 => h9) rfl dX12_gainOf_1 ?_
  refine lv_bipush (v := 12) hx hb dX12_gainOf_4 (by decide) ?_
  refine lv_iload_n hx hb dX12_gainOf_6 rfl (lv_at hl 1 rfl) ?_
  refine lv_iadd hx hb dX12_gainOf_7 ?_
  refine zi_top (a := 12) (b := 17) (zB_add (show zB 12 12 12 from ⟨by decide, by decide⟩) b_x0 (by decide) (by decide) (by decide) (by decide)) (fun y7 by7 => ?_)
  refine va_iald hx hb hK hP 1 0 rfl rfl (zB_in by7 (by decide) (by decide)) dX12_gainOf_8 ?_
  refine lv_topi (fun y8 _ => ?_)
  refine lv_iconst (v := 1) hx hb dX12_gainOf_9 (by decide) ?_
  refine lv_icmp_ne (tgt := 25) hx hb dX12_gainOf_10 (by decide) (fun c10 => ?_) (fun c10 => ?_)
  · refine lv_iconst (v := (-1)) hx hb dX12_gainOf_25 (by decide) ?_
    exact W.iret (v := (-1)) hx hb hr (fun t ht hW => ⟨(-1), rfl, trivial, ht⟩) (fun q hq => by cases hq) dX12_gainOf_26
  · have be10f_y8 : zB y8 1 1 := zB_eq c10 (zB_top y8) (show zB 1 1 1 from ⟨by decide, by decide⟩) (by decide) (by decide)
    refine lv_aload_n hx hb dX12_gainOf_13 rfl (lv_at hl 0 rfl) ?_
    refine va_get (D := D) (ci := 12) (v := .ref (aMO 42)) (C := RX12) (T := TX12) (N := 71) hx hb hts iw_X12_gainOf_X12 hown hK hP 0 rfl rfl 42 (by decide) (hts (.fieldLink RX12 95 "SoldHouseModel" "all" "[I") (List.mem_of_getElem? (i := 1) rfl)) (fun _ h9 => h9) rfl dX12_gainOf_14 ?_
    refine lv_bipush (v := 12) hx hb dX12_gainOf_17 (by decide) ?_
    refine lv_iload_n hx hb dX12_gainOf_19 rfl (lv_at hl 2 rfl) ?_
    refine lv_iadd hx hb dX12_gainOf_20 ?_
    refine zi_top (a := 12) (b := 17) (zB_add (show zB 12 12 12 from ⟨by decide, by decide⟩) b_x1 (by decide) (by decide) (by decide) (by decide)) (fun y20 by20 => ?_)
    refine va_iald hx hb hK hP 1 0 rfl rfl (zB_in by20 (by decide) (by decide)) dX12_gainOf_21 ?_
    refine lv_topi (fun y21 _ => ?_)
    refine lv_if_eq (tgt := 27) hx hb dX12_gainOf_22 (by decide) (fun c22 => ?_) (fun c22 => ?_)
    · have be22t_y21 : zB y21 0 0 := zB_eq c22 (zB_top y21) (show zB 0 0 0 from ⟨by decide, by decide⟩) (by decide) (by decide)
      refine lv_aload_n hx hb dX12_gainOf_27 rfl (lv_at hl 0 rfl) ?_
      refine lv_iload_n hx hb dX12_gainOf_28 rfl (lv_at hl 2 rfl) ?_
      refine lv_iconst (v := 0) hx hb dX12_gainOf_29 (by decide) ?_
      have hPc := hP.sub (ws' := [(MO, .inr (12, oX12 aMO MO_taped MO_size MO_faultKind MO_faultPlace MO_at MO_end MO_token MO_number MO_name MO_bank MO_rb MO_codes MO_within MO_piled MO_unitsInRule MO_askThing MO_acts MO_undone MO_laid MO_heards MO_time)), ((aMO 23), .inl (cI, 12, .inl MO_toThem)), ((aMO 22), .inl (cI, 12, .inl MO_toUs))]) [0, 2, 3] rfl
      refine vp_callSi (va_runV (As := [.int x1, .int 0]) (rest := []) ⟨hx, hb, hml, hown, hts⟩ (c_X12_worthOf l D cI cB cL cZ cG MO x1 0 aMO MO_taped MO_size MO_faultKind MO_faultPlace MO_at MO_end MO_token MO_number MO_name MO_bank MO_rb MO_codes MO_within MO_piled MO_unitsInRule MO_askThing MO_acts MO_undone MO_laid MO_heards MO_time MO_toThem MO_toUs b_x1 b_MO_taped b_MO_size b_MO_faultKind b_MO_at b_MO_end b_MO_token b_MO_bank b_MO_rb b_MO_codes b_MO_within b_MO_piled b_MO_unitsInRule b_MO_askThing b_MO_acts b_MO_undone b_MO_laid b_MO_heards b_MO_time) (cwV 2 hts gX12_gainOf_X12_worthOf rfl rfl rfl (by decide +kernel) ⟨Nat.le_of_ble_eq_true rfl, Nat.le_of_ble_eq_true rfl⟩) ⟨xr_blind, va_recv hK hP (ci := 12) (q0 := 0) rfl rfl, fun U hU hW => xr_mk hU hW hPc hK⟩ rfl rfl hl.1 rfl (lv_room (Nat.le_of_ble_eq_true rfl)) dX12_gainOf_30 ⟨Nat.le_of_ble_eq_true rfl, Nat.le_of_ble_eq_true rfl⟩).run (fun r30 hr30 => ?_)
      clear hPc
      clear hr30
      refine lv_aload_n hx hb dX12_gainOf_33 rfl (lv_at hl 0 rfl) ?_
      refine lv_iload_n hx hb dX12_gainOf_34 rfl (lv_at hl 1 rfl) ?_
      refine lv_iconst (v := 0) hx hb dX12_gainOf_35 (by decide) ?_
      have hPc := hP.sub (ws' := [(MO, .inr (12, oX12 aMO MO_taped MO_size MO_faultKind MO_faultPlace MO_at MO_end MO_token MO_number MO_name MO_bank MO_rb MO_codes MO_within MO_piled MO_unitsInRule MO_askThing MO_acts MO_undone MO_laid MO_heards MO_time)), ((aMO 23), .inl (cI, 12, .inl MO_toThem)), ((aMO 22), .inl (cI, 12, .inl MO_toUs))]) [0, 2, 3] rfl
      refine vp_callSi (va_runV (As := [.int x0, .int 0]) (rest := [.int r30]) ⟨hx, hb, hml, hown, hts⟩ (c_X12_worthOf l D cI cB cL cZ cG MO x0 0 aMO MO_taped MO_size MO_faultKind MO_faultPlace MO_at MO_end MO_token MO_number MO_name MO_bank MO_rb MO_codes MO_within MO_piled MO_unitsInRule MO_askThing MO_acts MO_undone MO_laid MO_heards MO_time MO_toThem MO_toUs b_x0 b_MO_taped b_MO_size b_MO_faultKind b_MO_at b_MO_end b_MO_token b_MO_bank b_MO_rb b_MO_codes b_MO_within b_MO_piled b_MO_unitsInRule b_MO_askThing b_MO_acts b_MO_undone b_MO_laid b_MO_heards b_MO_time) (cwV 2 hts gX12_gainOf_X12_worthOf rfl rfl rfl (by decide +kernel) ⟨Nat.le_of_ble_eq_true rfl, Nat.le_of_ble_eq_true rfl⟩) ⟨xr_blind, va_recv hK hP (ci := 12) (q0 := 0) rfl rfl, fun U hU hW => xr_mk hU hW hPc hK⟩ rfl rfl hl.1 rfl (lv_room (Nat.le_of_ble_eq_true rfl)) dX12_gainOf_36 ⟨Nat.le_of_ble_eq_true rfl, Nat.le_of_ble_eq_true rfl⟩).run (fun r36 hr36 => ?_)
      clear hPc
      clear hr36
      refine lv_isub hx hb dX12_gainOf_39 ?_
      refine lv_topi (fun y39 _ => ?_)
      refine lv_istore_n (lv' := [(3, .int y39), (0, .ref MO), (1, .int x0), (2, .int x1)]) hx hb dX12_gainOf_40 rfl hl (by decide) rfl (fun ls hl => ?_)
      refine lv_aload_n hx hb dX12_gainOf_41 rfl (lv_at hl 1 rfl) ?_
      refine lv_iload_n hx hb dX12_gainOf_42 rfl (lv_at hl 2 rfl) ?_
      refine lv_iconst (v := 1) hx hb dX12_gainOf_43 (by decide) ?_
      have hPc := hP.sub (ws' := [(MO, .inr (12, oX12 aMO MO_taped MO_size MO_faultKind MO_faultPlace MO_at MO_end MO_token MO_number MO_name MO_bank MO_rb MO_codes MO_within MO_piled MO_unitsInRule MO_askThing MO_acts MO_undone MO_laid MO_heards MO_time)), ((aMO 23), .inl (cI, 12, .inl MO_toThem)), ((aMO 22), .inl (cI, 12, .inl MO_toUs))]) [0, 2, 3] rfl
      refine vp_callSi (va_runV (As := [.int x0, .int 1]) (rest := []) ⟨hx, hb, hml, hown, hts⟩ (c_X12_worthOf l D cI cB cL cZ cG MO x0 1 aMO MO_taped MO_size MO_faultKind MO_faultPlace MO_at MO_end MO_token MO_number MO_name MO_bank MO_rb MO_codes MO_within MO_piled MO_unitsInRule MO_askThing MO_acts MO_undone MO_laid MO_heards MO_time MO_toThem MO_toUs b_x0 b_MO_taped b_MO_size b_MO_faultKind b_MO_at b_MO_end b_MO_token b_MO_bank b_MO_rb b_MO_codes b_MO_within b_MO_piled b_MO_unitsInRule b_MO_askThing b_MO_acts b_MO_undone b_MO_laid b_MO_heards b_MO_time) (cwV 2 hts gX12_gainOf_X12_worthOf rfl rfl rfl (by decide +kernel) ⟨Nat.le_of_ble_eq_true rfl, Nat.le_of_ble_eq_true rfl⟩) ⟨xr_blind, va_recv hK hP (ci := 12) (q0 := 0) rfl rfl, fun U hU hW => xr_mk hU hW hPc hK⟩ rfl rfl hl.1 rfl (lv_room (Nat.le_of_ble_eq_true rfl)) dX12_gainOf_44 ⟨Nat.le_of_ble_eq_true rfl, Nat.le_of_ble_eq_true rfl⟩).run (fun r44 hr44 => ?_)
      clear hPc
      clear hr44
      refine lv_aload_n hx hb dX12_gainOf_47 rfl (lv_at hl 1 rfl) ?_
      refine lv_iload_n hx hb dX12_gainOf_48 rfl (lv_at hl 3 rfl) ?_
      refine lv_iconst (v := 1) hx hb dX12_gainOf_49 (by decide) ?_
      have hPc := hP.sub (ws' := [(MO, .inr (12, oX12 aMO MO_taped MO_size MO_faultKind MO_faultPlace MO_at MO_end MO_token MO_number MO_name MO_bank MO_rb MO_codes MO_within MO_piled MO_unitsInRule MO_askThing MO_acts MO_undone MO_laid MO_heards MO_time)), ((aMO 23), .inl (cI, 12, .inl MO_toThem)), ((aMO 22), .inl (cI, 12, .inl MO_toUs))]) [0, 2, 3] rfl
      refine vp_callSi (va_runV (As := [.int x1, .int 1]) (rest := [.int r44]) ⟨hx, hb, hml, hown, hts⟩ (c_X12_worthOf l D cI cB cL cZ cG MO x1 1 aMO MO_taped MO_size MO_faultKind MO_faultPlace MO_at MO_end MO_token MO_number MO_name MO_bank MO_rb MO_codes MO_within MO_piled MO_unitsInRule MO_askThing MO_acts MO_undone MO_laid MO_heards MO_time MO_toThem MO_toUs b_x1 b_MO_taped b_MO_size b_MO_faultKind b_MO_at b_MO_end b_MO_token b_MO_bank b_MO_rb b_MO_codes b_MO_within b_MO_piled b_MO_unitsInRule b_MO_askThing b_MO_acts b_MO_undone b_MO_laid b_MO_heards b_MO_time) (cwV 2 hts gX12_gainOf_X12_worthOf rfl rfl rfl (by decide +kernel) ⟨Nat.le_of_ble_eq_true rfl, Nat.le_of_ble_eq_true rfl⟩) ⟨xr_blind, va_recv hK hP (ci := 12) (q0 := 0) rfl rfl, fun U hU hW => xr_mk hU hW hPc hK⟩ rfl rfl hl.1 rfl (lv_room (Nat.le_of_ble_eq_true rfl)) dX12_gainOf_50 ⟨Nat.le_of_ble_eq_true rfl, Nat.le_of_ble_eq_true rfl⟩).run (fun r50 hr50 => ?_)
      clear hPc
      clear hr50
      refine lv_isub hx hb dX12_gainOf_53 ?_
      refine lv_topi (fun y53 _ => ?_)
      refine lv_istore (lv' := [(4, .int y53), (3, .int y39), (0, .ref MO), (1, .int x0), (2, .int x1)]) hx hb dX12_gainOf_54 hl (by decide) rfl (fun ls hl => ?_)
      refine lv_iload_n hx hb dX12_gainOf_56 rfl (lv_at hl 1 rfl) ?_
      refine lv_if_lt (tgt := 65) hx hb dX12_gainOf_57 (by decide) (fun c57 => ?_) (fun c57 => ?_)
      · have bx57t_y39 : zB y39 (-2147483648) (-1) := zB_ltu (zl c57) (zB_top y39) (show zB 0 0 0 from ⟨by decide, by decide⟩) (by decide)
        refine lv_iconst (v := (-1)) hx hb dX12_gainOf_65 (by decide) ?_
        refine lv_goto (tgt := 73) hx hb dX12_gainOf_66 (by decide) ?_
        exact W.iret (v := (-1)) hx hb hr (fun t ht hW => ⟨(-1), rfl, trivial, ht⟩) (fun q hq => by cases hq) dX12_gainOf_73
      · have by57f_y39 : zB y39 0 2147483647 := zB_lev (zg c57) (show zB 0 0 0 from ⟨by decide, by decide⟩) (zB_top y39) (by decide)
        refine lv_iload hx hb dX12_gainOf_60 (lv_at hl 0 rfl) ?_
        refine lv_if_ge (tgt := 69) hx hb dX12_gainOf_62 (by decide) (fun c62 => ?_) (fun c62 => ?_)
        · have by62t_y53 : zB y53 0 2147483647 := zB_lev (ze c62) (show zB 0 0 0 from ⟨by decide, by decide⟩) (zB_top y53) (by decide)
          refine lv_iload_n hx hb dX12_gainOf_69 rfl (lv_at hl 1 rfl) ?_
          refine lv_iload hx hb dX12_gainOf_70 (lv_at hl 0 rfl) ?_
          refine lv_iadd hx hb dX12_gainOf_72 ?_
          refine lv_topi (fun y72 _ => ?_)
          exact W.iret (v := y72) hx hb hr (fun t ht hW => ⟨y72, rfl, trivial, ht⟩) (fun q hq => by cases hq) dX12_gainOf_73
        · have bx62f_y53 : zB y53 (-2147483648) (-1) := zB_ltu (zf c62) (zB_top y53) (show zB 0 0 0 from ⟨by decide, by decide⟩) (by decide)
          refine lv_iconst (v := (-1)) hx hb dX12_gainOf_65 (by decide) ?_
          refine lv_goto (tgt := 73) hx hb dX12_gainOf_66 (by decide) ?_
          exact W.iret (v := (-1)) hx hb hr (fun t ht hW => ⟨(-1), rfl, trivial, ht⟩) (fun q hq => by cases hq) dX12_gainOf_73
    · refine lv_iconst (v := (-1)) hx hb dX12_gainOf_25 (by decide) ?_
      exact W.iret (v := (-1)) hx hb hr (fun t ht hW => ⟨(-1), rfl, trivial, ht⟩) (fun q hq => by cases hq) dX12_gainOf_26
set_option maxHeartbeats 4000000 in
set_option maxRecDepth 100000 in
theorem c_X12_trade (l : Launch) (D : va_G) (cI : ClassId) (cB : ClassId) (cL : ClassId) (cZ : ClassId) (cG : ClassId) (MO : Nat) (x0 : Int32) (aMO : Nat → Nat) (MO_taped : Int32) (MO_size : Int32) (MO_faultKind : Int32) (MO_faultPlace : Int32) (MO_at : Int32) (MO_end : Int32) (MO_token : Int32) (MO_number : Int32) (MO_name : Int64) (MO_bank : Int32) (MO_rb : Int32) (MO_codes : Int32) (MO_within : Int32) (MO_piled : Int32) (MO_unitsInRule : Int32) (MO_askThing : Int32) (MO_acts : Int32) (MO_undone : Int32) (MO_laid : Int32) (MO_heards : Int32) (MO_time : Int32) (MO_things : Nat → Int32) (MO_all : Nat → Int32) (MO_toThem : Nat → Int32) (MO_toUs : Nat → Int32) (b_MO_taped : zB MO_taped 0 1600) (b_MO_size : zB MO_size 0 1600) (b_MO_faultKind : zB MO_faultKind 0 5) (b_MO_at : zB MO_at 0 1600) (b_MO_end : zB MO_end 0 1600) (b_MO_token : zB MO_token 0 5) (b_MO_bank : zB MO_bank 0 1) (b_MO_rb : zB MO_rb 0 1) (b_MO_codes : zB MO_codes 0 1120) (b_MO_within : zB MO_within 0 7) (b_MO_piled : zB MO_piled 0 89) (b_MO_unitsInRule : zB MO_unitsInRule 0 30) (b_MO_askThing : zB MO_askThing 0 5) (b_MO_acts : zB MO_acts 0 40) (b_MO_undone : zB MO_undone 0 40) (b_MO_laid : zB MO_laid 0 8) (b_MO_heards : zB MO_heards 0 30) (b_MO_time : zB MO_time 0 100000) (s_MO_things_0 : zA MO_things 0 2 0 6) (s_MO_all_0 : zA MO_all 0 12 0 7) : Met l yX12_trade wsX12_trade ({ frames := 2, cells := 0, slots := 0, locals := 46 }) (xr D [(cI, .int), (cB, .byte), (cL, .long), (cZ, .boolean), (cG, .array .int)] [(MO, .inr (12, oX12 aMO MO_taped MO_size MO_faultKind MO_faultPlace MO_at MO_end MO_token MO_number MO_name MO_bank MO_rb MO_codes MO_within MO_piled MO_unitsInRule MO_askThing MO_acts MO_undone MO_laid MO_heards MO_time)), ((aMO 13), .inl (cI, 2, .inl MO_things)), ((aMO 42), .inl (cI, 32, .inl MO_all)), ((aMO 23), .inl (cI, 12, .inl MO_toThem)), ((aMO 22), .inl (cI, 12, .inl MO_toUs))] [.ref MO, .int x0]) (vp_Si (fun r => True)) 0 0 (fun _ => False) := by
  refine Met.ofW (cc := cX12_trade) (maxL := 5) (ret := (some .int)) (by decide) rfl ?_
  intro p e s m args below meth c s₁ B hml hv
  obtain ⟨rfl, hP, hK⟩ := hv
  have hx := B.exec
  have hb := B.bytes
  have hr := B.returns
  have hts := atoms_spec (ws := wsX12_trade) B.pre
  have hown : s.vm.findClass RX12 = some m.cls := findClass_of_methodNamed B.named
  have hlocks := B.notSynchronized
  clear B
  have hl := lv_entry ([.ref MO, .int x0]) (n := 5) (Nat.le_of_ble_eq_true rfl)
  rw [lg_entry_eq]
  generalize (lg_sl ([.ref MO, .int x0]) ++ List.replicate (5 - (lg_sl ([.ref MO, .int x0])).length) Slot.unset).toArray = ls at hl ⊢
  replace hl : lv_has ls 5 [(0, .ref MO), (1, .int x0)] := hl
  refine zz_abs (R := ({ frames := 2, cells := 0, slots := 0, locals := 46 } : Room)) (fun Q up => ?_)
  refine lv_iload_n hx hb dX12_trade_0 rfl (lv_at hl 1 rfl) ?_
  refine lv_iconst (v := 0) hx hb dX12_trade_1 (by decide) ?_
  refine lv_iconst (v := 2) hx hb dX12_trade_2 (by decide) ?_
  have hPc := hP.sub (ws' := []) [] rfl
  refine vp_callSi (va_runS (As := [.int x0, .int 0, .int 2]) (rest := []) ⟨hx, hb, hml, hown, hts⟩ (c_X12_isIn l D cI cB cL cZ cG x0 0 2) (va_cwS 3 hts gX12_trade_X12_isIn rfl rfl rfl (by decide +kernel) ⟨Nat.le_of_ble_eq_true rfl, Nat.le_of_ble_eq_true rfl⟩) ⟨xr_blind, fun U hU hW => xr_mk hU hW hPc hK⟩ rfl rfl hl.1 rfl (lv_room (Nat.le_of_ble_eq_true rfl)) dX12_trade_3 ⟨Nat.le_of_ble_eq_true rfl, Nat.le_of_ble_eq_true rfl⟩).run (fun r3 hr3 => ?_)
  clear hPc
  rcases hr3 with rfl | ⟨rfl, hr3_1_0, hr3_1_1⟩
  · refine lv_if_ne (tgt := 11) hx hb dX12_trade_6 (by decide) (fun c6 => absurd (by decide) c6) (fun _ => ?_)
    refine lv_iconst (v := (-1)) hx hb dX12_trade_9 (by decide) ?_
    exact up _ _ _ (W.iret (v := (-1)) hx hb hr (fun t ht hW => ⟨(-1), rfl, trivial, ht⟩) (fun q hq => by cases hq) dX12_trade_10)
  · have by6r0_x0 : zB x0 0 2147483647 := zB_lev hr3_1_0 (show zB 0 0 0 from ⟨by decide, by decide⟩) (zB_top x0) (by decide)
    have bx6r1_x0 : zB x0 0 2 := zB_leu hr3_1_1 by6r0_x0 (show zB 2 2 2 from ⟨by decide, by decide⟩) (by decide)
    refine lv_if_ne (tgt := 11) hx hb dX12_trade_6 (by decide) (fun _ => ?_) (fun c6 => absurd c6 (by decide))
    refine lv_iconst (v := (-1)) hx hb dX12_trade_11 (by decide) ?_
    refine lv_istore_n (lv' := [(2, .int (-1)), (0, .ref MO), (1, .int x0)]) hx hb dX12_trade_12 rfl hl (by decide) rfl (fun ls hl => ?_)
    refine lv_iconst (v := (-1)) hx hb dX12_trade_13 (by decide) ?_
    refine lv_istore_n (lv' := [(3, .int (-1)), (2, .int (-1)), (0, .ref MO), (1, .int x0)]) hx hb dX12_trade_14 rfl hl (by decide) rfl (fun ls hl => ?_)
    refine lv_iconst (v := 0) hx hb dX12_trade_15 (by decide) ?_
    have j18 : ∀ (n18 : Nat) (ls : Array Slot) (v18_4 : Int32) (v18_3 : Int32) (v18_2 : Int32), zB v18_4 0 36 → zB v18_2 (-1) 35 → zA MO_things 0 2 0 6 → zA MO_all 0 12 0 7 → (36 + 1 - v18_4.toInt) ≤ (n18 : Int) → lv_has ls 5 [(4, .int v18_4), (3, .int v18_3), (2, .int v18_2), (0, .ref MO), (1, .int x0)] → W p l e ({ frames := 2, cells := 0, slots := 0, locals := 46 } : Room) s m ([.ref MO, .int x0] : List Value).toArray below meth c s.heap [] 0 0 Q (F0 m 18 ls []) := by
      intro n18
      induction n18 with
      | zero => intro ls v18_4 v18_3 v18_2 bv18_4_k18 bv18_2_k18 sMO_things_0_k18 sMO_all_0_k18 hm18 hl; exact zM_u0 bv18_4_k18 hm18
      | succ n18 ih18 =>
        intro ls v18_4 v18_3 v18_2 bv18_4_k18 bv18_2_k18 sMO_things_0_k18 sMO_all_0_k18 hm18 hl
        refine lv_iload hx hb dX12_trade_18 (lv_at hl 0 rfl) ?_
        refine lv_bipush (v := 36) hx hb dX12_trade_20 (by decide) ?_
        refine lv_icmp_ge (tgt := 94) hx hb dX12_trade_22 (by decide) (fun c22 => ?_) (fun c22 => ?_)
        · have by22t_v18_4 : zB v18_4 36 36 := zB_lev (ze c22) (show zB 36 36 36 from ⟨by decide, by decide⟩) bv18_4_k18 (by decide)
          refine lv_iload_n hx hb dX12_trade_94 rfl (lv_at hl 2 rfl) ?_
          refine lv_if_ge (tgt := 102) hx hb dX12_trade_95 (by decide) (fun c95 => ?_) (fun c95 => ?_)
          · have by95t_v18_2 : zB v18_2 0 35 := zB_lev (ze c95) (show zB 0 0 0 from ⟨by decide, by decide⟩) bv18_2_k18 (by decide)
            refine lv_iload_n hx hb dX12_trade_102 rfl (lv_at hl 4 rfl) ?_
            refine lv_if_ne (tgt := 110) hx hb dX12_trade_103 (by decide) (fun c103 => ?_) (fun c103 => ?_)
            · have bn103t_x0 : zB x0 1 2 := zB_neL c103 bx6r1_x0 (show zB 0 0 0 from ⟨by decide, by decide⟩) (by decide)
              refine lv_iload_n hx hb dX12_trade_110 rfl (lv_at hl 4 rfl) ?_
              refine lv_iconst (v := 1) hx hb dX12_trade_111 (by decide) ?_
              refine lv_icmp_ne (tgt := 122) hx hb dX12_trade_112 (by decide) (fun c112 => ?_) (fun c112 => ?_)
              · have bn112t_x0 : zB x0 2 2 := zB_neL c112 bn103t_x0 (show zB 1 1 1 from ⟨by decide, by decide⟩) (by decide)
                refine lv_iload_n hx hb dX12_trade_122 rfl (lv_at hl 2 rfl) ?_
                refine lv_bipush (v := 6) hx hb dX12_trade_123 (by decide) ?_
                refine lv_irem hx hb dX12_trade_125 (by decide) ?_
                refine zi_top (a := 0) (b := 5) (zB_rem by95t_v18_2 (show zB 6 6 6 from ⟨by decide, by decide⟩) (by decide) (by decide) (by decide)) (fun y125 by125 => ?_)
                exact up _ _ _ (W.iret (v := y125) hx hb hr (fun t ht hW => ⟨y125, rfl, trivial, ht⟩) (fun q hq => by cases hq) dX12_trade_126)
              · have be112f_x0 : zB x0 1 1 := zB_eq c112 bn103t_x0 (show zB 1 1 1 from ⟨by decide, by decide⟩) (by decide) (by decide)
                refine lv_iload_n hx hb dX12_trade_115 rfl (lv_at hl 2 rfl) ?_
                refine lv_bipush (v := 6) hx hb dX12_trade_116 (by decide) ?_
                refine lv_idiv hx hb dX12_trade_118 (by decide) ?_
                refine zi_top (a := 0) (b := 5) (zB_div by95t_v18_2 (show zB 6 6 6 from ⟨by decide, by decide⟩) (by decide) (by decide) (by decide) (by decide)) (fun y118 by118 => ?_)
                refine lv_goto (tgt := 126) hx hb dX12_trade_119 (by decide) ?_
                exact up _ _ _ (W.iret (v := y118) hx hb hr (fun t ht hW => ⟨y118, rfl, trivial, ht⟩) (fun q hq => by cases hq) dX12_trade_126)
            · have be103f_x0 : zB x0 0 0 := zB_eq c103 bx6r1_x0 (show zB 0 0 0 from ⟨by decide, by decide⟩) (by decide) (by decide)
              refine lv_iload_n hx hb dX12_trade_106 rfl (lv_at hl 1 rfl) ?_
              refine lv_goto (tgt := 126) hx hb dX12_trade_107 (by decide) ?_
              exact up _ _ _ (W.iret (v := v18_3) hx hb hr (fun t ht hW => ⟨v18_3, rfl, trivial, ht⟩) (fun q hq => by cases hq) dX12_trade_126)
          · have bx95f_v18_2 : zB v18_2 (-1) (-1) := zB_ltu (zf c95) bv18_2_k18 (show zB 0 0 0 from ⟨by decide, by decide⟩) (by decide)
            refine lv_iconst (v := (-1)) hx hb dX12_trade_98 (by decide) ?_
            refine lv_goto (tgt := 126) hx hb dX12_trade_99 (by decide) ?_
            exact up _ _ _ (W.iret (v := (-1)) hx hb hr (fun t ht hW => ⟨(-1), rfl, trivial, ht⟩) (fun q hq => by cases hq) dX12_trade_126)
        · have bx22f_v18_4 : zB v18_4 0 35 := zB_ltu (zf c22) bv18_4_k18 (show zB 36 36 36 from ⟨by decide, by decide⟩) (by decide)
          refine lv_iload hx hb dX12_trade_25 (lv_at hl 0 rfl) ?_
          refine lv_bipush (v := 6) hx hb dX12_trade_27 (by decide) ?_
          refine lv_idiv hx hb dX12_trade_29 (by decide) ?_
          refine zi_top (a := 0) (b := 5) (zB_div bx22f_v18_4 (show zB 6 6 6 from ⟨by decide, by decide⟩) (by decide) (by decide) (by decide) (by decide)) (fun y29 by29 => ?_)
          refine lv_aload_n hx hb dX12_trade_30 rfl (lv_at hl 3 rfl) ?_
          have hPc := hP.sub (ws' := [(MO, .inr (12, oX12 aMO MO_taped MO_size MO_faultKind MO_faultPlace MO_at MO_end MO_token MO_number MO_name MO_bank MO_rb MO_codes MO_within MO_piled MO_unitsInRule MO_askThing MO_acts MO_undone MO_laid MO_heards MO_time)), ((aMO 13), .inl (cI, 2, .inl MO_things))]) [0, 1] rfl
          refine vp_callSi (va_runV (As := []) (rest := [.int y29]) ⟨hx, hb, hml, hown, hts⟩ (c_X12_many l D cI cB cL cZ cG MO aMO MO_taped MO_size MO_faultKind MO_faultPlace MO_at MO_end MO_token MO_number MO_name MO_bank MO_rb MO_codes MO_within MO_piled MO_unitsInRule MO_askThing MO_acts MO_undone MO_laid MO_heards MO_time MO_things b_MO_taped b_MO_size b_MO_faultKind b_MO_at b_MO_end b_MO_token b_MO_bank b_MO_rb b_MO_codes b_MO_within b_MO_piled b_MO_unitsInRule b_MO_askThing b_MO_acts b_MO_undone b_MO_laid b_MO_heards b_MO_time sMO_things_0_k18) (cwV 0 hts gX12_trade_X12_many rfl rfl rfl (by decide +kernel) ⟨Nat.le_of_ble_eq_true rfl, Nat.le_of_ble_eq_true rfl⟩) ⟨xr_blind, va_recv hK hP (ci := 12) (q0 := 0) rfl rfl, fun U hU hW => xr_mk hU hW hPc hK⟩ rfl rfl hl.1 rfl (lv_room (Nat.le_of_ble_eq_true rfl)) dX12_trade_31 ⟨Nat.le_of_ble_eq_true rfl, Nat.le_of_ble_eq_true rfl⟩).run (fun r31 hr31 => ?_)
          obtain ⟨hr31, p31_v⟩ := hr31
          clear hPc
          have j88 : ∀ (ls : Array Slot) (v88_3 : Int32) (v88_2 : Int32), zB v88_2 (-1) 35 → zA MO_things 0 2 0 6 → zA MO_all 0 12 0 7 → lv_has ls 5 [(4, .int v18_4), (3, .int v88_3), (2, .int v88_2), (0, .ref MO), (1, .int x0)] → W p l e ({ frames := 2, cells := 0, slots := 0, locals := 46 } : Room) s m ([.ref MO, .int x0] : List Value).toArray below meth c s.heap [] 0 0 Q (F0 m 88 ls []) := by
            intro ls v88_3 v88_2 bv88_2_k88 sMO_things_0_k88 sMO_all_0_k88 hl
            obtain ⟨y88, by88, ry88, ey88⟩ := zi_inc (x := v18_4) (k := 1) (a := 1) (b := 36) bx22f_v18_4 (by decide) (by decide) (by decide) (by decide) (by decide)
            refine lv_iinc (v := y88) (lv' := [(4, .int y88), (3, .int v88_3), (2, .int v88_2), (0, .ref MO), (1, .int x0)]) hx hb dX12_trade_88 hl (k := 0) rfl ey88 (by decide) rfl (fun ls hl => ?_)
            refine lv_goto (tgt := 18) hx hb dX12_trade_91 (by decide) ?_
            exact ih18 ls y88 v88_3 v88_2 (zB_w by88 (by decide) (by decide)) bv88_2_k88 sMO_things_0_k88 sMO_all_0_k88 (zM_us (k := 1) hm18 ry88 (by decide)) (lv_sub hl [0, 1, 2, 3, 4] rfl)
          refine lv_icmp_ge (tgt := 88) hx hb dX12_trade_34 (by decide) (fun c34 => ?_) (fun c34 => ?_)
          · have bx34t_r31 : zB r31 0 5 := zB_leu (ze c34) hr31 by29 (by decide)
            exact j88 ls v18_3 v18_2 bv18_2_k18 sMO_things_0_k18 sMO_all_0_k18 (lv_sub hl [0, 1, 2, 3, 4] rfl)
          · have by34f_r31 : zB r31 1 6 := zB_ltv (zf c34) by29 hr31 (by decide)
            refine lv_iload hx hb dX12_trade_37 (lv_at hl 0 rfl) ?_
            refine lv_bipush (v := 6) hx hb dX12_trade_39 (by decide) ?_
            refine lv_irem hx hb dX12_trade_41 (by decide) ?_
            refine zi_top (a := 0) (b := 5) (zB_rem bx22f_v18_4 (show zB 6 6 6 from ⟨by decide, by decide⟩) (by decide) (by decide) (by decide)) (fun y41 by41 => ?_)
            refine lv_aload_n hx hb dX12_trade_42 rfl (lv_at hl 3 rfl) ?_
            have hPc := hP.sub (ws' := [(MO, .inr (12, oX12 aMO MO_taped MO_size MO_faultKind MO_faultPlace MO_at MO_end MO_token MO_number MO_name MO_bank MO_rb MO_codes MO_within MO_piled MO_unitsInRule MO_askThing MO_acts MO_undone MO_laid MO_heards MO_time)), ((aMO 13), .inl (cI, 2, .inl MO_things))]) [0, 1] rfl
            refine vp_callSi (va_runV (As := []) (rest := [.int y41]) ⟨hx, hb, hml, hown, hts⟩ (c_X12_many l D cI cB cL cZ cG MO aMO MO_taped MO_size MO_faultKind MO_faultPlace MO_at MO_end MO_token MO_number MO_name MO_bank MO_rb MO_codes MO_within MO_piled MO_unitsInRule MO_askThing MO_acts MO_undone MO_laid MO_heards MO_time MO_things b_MO_taped b_MO_size b_MO_faultKind b_MO_at b_MO_end b_MO_token b_MO_bank b_MO_rb b_MO_codes b_MO_within b_MO_piled b_MO_unitsInRule b_MO_askThing b_MO_acts b_MO_undone b_MO_laid b_MO_heards b_MO_time sMO_things_0_k18) (cwV 0 hts gX12_trade_X12_many rfl rfl rfl (by decide +kernel) ⟨Nat.le_of_ble_eq_true rfl, Nat.le_of_ble_eq_true rfl⟩) ⟨xr_blind, va_recv hK hP (ci := 12) (q0 := 0) rfl rfl, fun U hU hW => xr_mk hU hW hPc hK⟩ rfl rfl hl.1 rfl (lv_room (Nat.le_of_ble_eq_true rfl)) dX12_trade_43 ⟨Nat.le_of_ble_eq_true rfl, Nat.le_of_ble_eq_true rfl⟩).run (fun r43 hr43 => ?_)
            obtain ⟨hr43, p43_v⟩ := hr43
            clear hPc
            refine lv_icmp_ge (tgt := 88) hx hb dX12_trade_46 (by decide) (fun c46 => ?_) (fun c46 => ?_)
            · have bx46t_r43 : zB r43 0 5 := zB_leu (ze c46) hr43 by41 (by decide)
              exact j88 ls v18_3 v18_2 bv18_2_k18 sMO_things_0_k18 sMO_all_0_k18 (lv_sub hl [0, 1, 2, 3, 4] rfl)
            · have by46f_r43 : zB r43 1 6 := zB_ltv (zf c46) by41 hr43 (by decide)
              refine lv_aload_n hx hb dX12_trade_49 rfl (lv_at hl 3 rfl) ?_
              refine lv_iload hx hb dX12_trade_50 (lv_at hl 0 rfl) ?_
              refine lv_bipush (v := 6) hx hb dX12_trade_52 (by decide) ?_
              refine lv_idiv hx hb dX12_trade_54 (by decide) ?_
              refine zi_top (a := 0) (b := 5) (zB_div bx22f_v18_4 (show zB 6 6 6 from ⟨by decide, by decide⟩) (by decide) (by decide) (by decide) (by decide)) (fun y54 by54 => ?_)
              refine lv_iload hx hb dX12_trade_55 (lv_at hl 0 rfl) ?_
              refine lv_bipush (v := 6) hx hb dX12_trade_57 (by decide) ?_
              refine lv_irem hx hb dX12_trade_59 (by decide) ?_
              refine zi_top (a := 0) (b := 5) (zB_rem bx22f_v18_4 (show zB 6 6 6 from ⟨by decide, by decide⟩) (by decide) (by decide) (by decide)) (fun y59 by59 => ?_)
              have hPc := hP.sub (ws' := [(MO, .inr (12, oX12 aMO MO_taped MO_size MO_faultKind MO_faultPlace MO_at MO_end MO_token MO_number MO_name MO_bank MO_rb MO_codes MO_within MO_piled MO_unitsInRule MO_askThing MO_acts MO_undone MO_laid MO_heards MO_time)), ((aMO 42), .inl (cI, 32, .inl MO_all)), ((aMO 23), .inl (cI, 12, .inl MO_toThem)), ((aMO 22), .inl (cI, 12, .inl MO_toUs))]) [0, 2, 3, 4] rfl
              refine vp_callSi (va_runV (As := [.int y54, .int y59]) (rest := []) ⟨hx, hb, hml, hown, hts⟩ (c_X12_gainOf l D cI cB cL cZ cG MO y54 y59 aMO MO_taped MO_size MO_faultKind MO_faultPlace MO_at MO_end MO_token MO_number MO_name MO_bank MO_rb MO_codes MO_within MO_piled MO_unitsInRule MO_askThing MO_acts MO_undone MO_laid MO_heards MO_time MO_all MO_toThem MO_toUs by54 by59 b_MO_taped b_MO_size b_MO_faultKind b_MO_at b_MO_end b_MO_token b_MO_bank b_MO_rb b_MO_codes b_MO_within b_MO_piled b_MO_unitsInRule b_MO_askThing b_MO_acts b_MO_undone b_MO_laid b_MO_heards b_MO_time sMO_all_0_k18) (cwV 2 hts gX12_trade_X12_gainOf rfl rfl rfl (by decide +kernel) ⟨Nat.le_of_ble_eq_true rfl, Nat.le_of_ble_eq_true rfl⟩) ⟨xr_blind, va_recv hK hP (ci := 12) (q0 := 0) rfl rfl, fun U hU hW => xr_mk hU hW hPc hK⟩ rfl rfl hl.1 rfl (lv_room (Nat.le_of_ble_eq_true rfl)) dX12_trade_60 ⟨Nat.le_of_ble_eq_true rfl, Nat.le_of_ble_eq_true rfl⟩).run (fun r60 hr60 => ?_)
              clear hPc
              clear hr60
              refine lv_iload_n hx hb dX12_trade_63 rfl (lv_at hl 1 rfl) ?_
              refine lv_icmp_gt (tgt := 70) hx hb dX12_trade_64 (by decide) (fun c64 => ?_) (fun c64 => ?_)
              · have bx64t_v18_3 : zB v18_3 (-2147483648) 2147483646 := zB_ltu (zl c64) (zB_top v18_3) (zB_top r60) (by decide)
                have by64t_r60 : zB r60 (-2147483647) 2147483647 := zB_ltv (zl c64) bx64t_v18_3 (zB_top r60) (by decide)
                refine lv_iload hx hb dX12_trade_70 (lv_at hl 0 rfl) ?_
                refine lv_istore_n (lv' := [(2, .int v18_4), (4, .int v18_4), (3, .int v18_3), (0, .ref MO), (1, .int x0)]) hx hb dX12_trade_72 rfl hl (by decide) rfl (fun ls hl => ?_)
                refine lv_aload_n hx hb dX12_trade_73 rfl (lv_at hl 3 rfl) ?_
                refine lv_iload hx hb dX12_trade_74 (lv_at hl 1 rfl) ?_
                refine lv_bipush (v := 6) hx hb dX12_trade_76 (by decide) ?_
                refine lv_idiv hx hb dX12_trade_78 (by decide) ?_
                refine zi_top (a := 0) (b := 5) (zB_div bx22f_v18_4 (show zB 6 6 6 from ⟨by decide, by decide⟩) (by decide) (by decide) (by decide) (by decide)) (fun y78 by78 => ?_)
                refine lv_iload hx hb dX12_trade_79 (lv_at hl 1 rfl) ?_
                refine lv_bipush (v := 6) hx hb dX12_trade_81 (by decide) ?_
                refine lv_irem hx hb dX12_trade_83 (by decide) ?_
                refine zi_top (a := 0) (b := 5) (zB_rem bx22f_v18_4 (show zB 6 6 6 from ⟨by decide, by decide⟩) (by decide) (by decide) (by decide)) (fun y83 by83 => ?_)
                have hPc := hP.sub (ws' := [(MO, .inr (12, oX12 aMO MO_taped MO_size MO_faultKind MO_faultPlace MO_at MO_end MO_token MO_number MO_name MO_bank MO_rb MO_codes MO_within MO_piled MO_unitsInRule MO_askThing MO_acts MO_undone MO_laid MO_heards MO_time)), ((aMO 42), .inl (cI, 32, .inl MO_all)), ((aMO 23), .inl (cI, 12, .inl MO_toThem)), ((aMO 22), .inl (cI, 12, .inl MO_toUs))]) [0, 2, 3, 4] rfl
                refine vp_callSi (va_runV (As := [.int y78, .int y83]) (rest := []) ⟨hx, hb, hml, hown, hts⟩ (c_X12_gainOf l D cI cB cL cZ cG MO y78 y83 aMO MO_taped MO_size MO_faultKind MO_faultPlace MO_at MO_end MO_token MO_number MO_name MO_bank MO_rb MO_codes MO_within MO_piled MO_unitsInRule MO_askThing MO_acts MO_undone MO_laid MO_heards MO_time MO_all MO_toThem MO_toUs by78 by83 b_MO_taped b_MO_size b_MO_faultKind b_MO_at b_MO_end b_MO_token b_MO_bank b_MO_rb b_MO_codes b_MO_within b_MO_piled b_MO_unitsInRule b_MO_askThing b_MO_acts b_MO_undone b_MO_laid b_MO_heards b_MO_time sMO_all_0_k18) (cwV 2 hts gX12_trade_X12_gainOf rfl rfl rfl (by decide +kernel) ⟨Nat.le_of_ble_eq_true rfl, Nat.le_of_ble_eq_true rfl⟩) ⟨xr_blind, va_recv hK hP (ci := 12) (q0 := 0) rfl rfl, fun U hU hW => xr_mk hU hW hPc hK⟩ rfl rfl hl.1 rfl (lv_room (Nat.le_of_ble_eq_true rfl)) dX12_trade_84 ⟨Nat.le_of_ble_eq_true rfl, Nat.le_of_ble_eq_true rfl⟩).run (fun r84 hr84 => ?_)
                clear hPc
                clear hr84
                refine lv_istore_n (lv' := [(3, .int r84), (2, .int v18_4), (4, .int v18_4), (0, .ref MO), (1, .int x0)]) hx hb dX12_trade_87 rfl hl (by decide) rfl (fun ls hl => ?_)
                exact j88 ls r84 v18_4 (zB_w bx22f_v18_4 (by decide) (by decide)) sMO_things_0_k18 sMO_all_0_k18 (lv_sub hl [2, 0, 1, 3, 4] rfl)
              · refine lv_goto (tgt := 88) hx hb dX12_trade_67 (by decide) ?_
                exact j88 ls v18_3 v18_2 bv18_2_k18 sMO_things_0_k18 sMO_all_0_k18 (lv_sub hl [0, 1, 2, 3, 4] rfl)
    refine lv_istore (lv' := [(4, .int 0), (3, .int (-1)), (2, .int (-1)), (0, .ref MO), (1, .int x0)]) hx hb dX12_trade_16 hl (by decide) rfl (fun ls hl => ?_)
    exact j18 37 ls 0 (-1) (-1) (zB_w (show zB 0 0 0 from ⟨by decide, by decide⟩) (by decide) (by decide)) (zB_w (show zB (-1) (-1) (-1) from ⟨by decide, by decide⟩) (by decide) (by decide)) s_MO_things_0 s_MO_all_0 (zM_ui (show zB 0 0 0 from ⟨by decide, by decide⟩) (by decide)) (lv_sub hl [0, 1, 2, 3, 4] rfl)
