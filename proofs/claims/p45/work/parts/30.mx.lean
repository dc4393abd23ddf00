set_option maxHeartbeats 4000000 in
set_option maxRecDepth 100000 in
theorem c_X12_isLetter (l : Launch) (D : va_G) (cI : ClassId) (cB : ClassId) (cL : ClassId) (cZ : ClassId) (cG : ClassId) (x0 : Int32) : Met l yX12_isLetter wsX12_isLetter ({ frames := 0, cells := 0, slots := 0, locals := 0 }) (xr D [(cI, .int), (cB, .byte), (cL, .long), (cZ, .boolean), (cG, .array .int)] [] [.int x0]) (vp_Si (fun r => ((r = 0) ∨ (r = 1 ∧ zB x0 97 122)) ∧ (r.toInt = 0 → (x0.toInt < 97 ∨ 122 < x0.toInt)))) 0 0 (fun _ => False) := by
  refine Met.ofW (cc := cX12_isLetter) (maxL := 1) (ret := (some .boolean)) (by decide) rfl ?_
  intro p e s m args below meth c s₁ B hml hv
  obtain ⟨rfl, hP, hK⟩ := hv
  have hx := B.exec
  have hb := B.bytes
  have hr := B.returns
  have hts := atoms_spec (ws := wsX12_isLetter) B.pre
  have hown : s.vm.findClass RX12 = some m.cls := findClass_of_methodNamed B.named
  have hlocks := B.notSynchronized
  clear B
  have hl := lv_entry ([.int x0]) (n := 1) (Nat.le_of_ble_eq_true rfl)
  rw [lg_entry_eq]
  generalize (lg_sl ([.int x0]) ++ List.replicate (1 - (lg_sl ([.int x0])).length) Slot.unset).toArray = ls at hl ⊢
  replace hl : lv_has ls 1 [(0, .int x0)] := hl
  refine lv_iload_n hx hb dX12_isLetter_0 rfl (lv_at hl 0 rfl) ?_
  refine lv_bipush (v := 97) hx hb dX12_isLetter_1 (by decide) ?_
  refine lv_icmp_lt (tgt := 16) hx hb dX12_isLetter_3 (by decide) (fun c3 => ?_) (fun c3 => ?_)
  · have bx3t_x0 : zB x0 (-2147483648) 96 := zB_ltu (zl c3) (zB_top x0) (show zB 97 97 97 from ⟨by decide, by decide⟩) (by decide)
    refine lv_iconst (v := 0) hx hb dX12_isLetter_16 (by decide) ?_
    exact W.zret (v := 0) (ty := .boolean) hx hb hr (by decide) (fun t ht hW => ⟨0, rfl, ⟨Or.inl rfl, (by have h9_0 := (zl c3); have h9_1 := (show (0 : Int32).toInt = 0 from by decide); have h9_2 := (show (97 : Int32).toInt = 97 from by decide); have h9_3 := (bx3t_x0).1; have h9_4 := (bx3t_x0).2; have h9_5 := (show (1 : Int32).toInt = 1 from by decide); have h9_6 := (show ((-1) : Int32).toInt = (-1) from by decide); omega)⟩, ht⟩) (fun q hq => by cases hq) dX12_isLetter_17
  · have by3f_x0 : zB x0 97 2147483647 := zB_lev (zg c3) (show zB 97 97 97 from ⟨by decide, by decide⟩) (zB_top x0) (by decide)
    refine lv_iload_n hx hb dX12_isLetter_6 rfl (lv_at hl 0 rfl) ?_
    refine lv_bipush (v := 122) hx hb dX12_isLetter_7 (by decide) ?_
    refine lv_icmp_gt (tgt := 16) hx hb dX12_isLetter_9 (by decide) (fun c9 => ?_) (fun c9 => ?_)
    · have by9t_x0 : zB x0 123 2147483647 := zB_ltv (zl c9) (show zB 122 122 122 from ⟨by decide, by decide⟩) by3f_x0 (by decide)
      refine lv_iconst (v := 0) hx hb dX12_isLetter_16 (by decide) ?_
      exact W.zret (v := 0) (ty := .boolean) hx hb hr (by decide) (fun t ht hW => ⟨0, rfl, ⟨Or.inl rfl, (by have h9_0 := (zg c3); have h9_1 := (zl c9); have h9_2 := (show (0 : Int32).toInt = 0 from by decide); have h9_3 := (show (122 : Int32).toInt = 122 from by decide); have h9_4 := (show (97 : Int32).toInt = 97 from by decide); have h9_5 := (by9t_x0).1; have h9_6 := (by9t_x0).2; have h9_7 := (show (1 : Int32).toInt = 1 from by decide); have h9_8 := (show ((-1) : Int32).toInt = (-1) from by decide); omega)⟩, ht⟩) (fun q hq => by cases hq) dX12_isLetter_17
    · have bx9f_x0 : zB x0 97 122 := zB_leu (zg c9) by3f_x0 (show zB 122 122 122 from ⟨by decide, by decide⟩) (by decide)
      refine lv_iconst (v := 1) hx hb dX12_isLetter_12 (by decide) ?_
      refine lv_goto (tgt := 17) hx hb dX12_isLetter_13 (by decide) ?_
      exact W.zret (v := 1) (ty := .boolean) hx hb hr (by decide) (fun t ht hW => ⟨1, rfl, ⟨Or.inr (⟨rfl, bx9f_x0⟩), (by have h9_0 := (zg c3); have h9_1 := (zg c9); have h9_2 := (show (1 : Int32).toInt = 1 from by decide); have h9_3 := (show (122 : Int32).toInt = 122 from by decide); have h9_4 := (show (97 : Int32).toInt = 97 from by decide); have h9_5 := (bx9f_x0).1; have h9_6 := (bx9f_x0).2; have h9_7 := (show (0 : Int32).toInt = 0 from by decide); have h9_8 := (show ((-1) : Int32).toInt = (-1) from by decide); omega)⟩, ht⟩) (fun q hq => by cases hq) dX12_isLetter_17
set_option maxHeartbeats 4000000 in
set_option maxRecDepth 100000 in
theorem c_X12_isDigit (l : Launch) (D : va_G) (cI : ClassId) (cB : ClassId) (cL : ClassId) (cZ : ClassId) (cG : ClassId) (x0 : Int32) : Met l yX12_isDigit wsX12_isDigit ({ frames := 0, cells := 0, slots := 0, locals := 0 }) (xr D [(cI, .int), (cB, .byte), (cL, .long), (cZ, .boolean), (cG, .array .int)] [] [.int x0]) (vp_Si (fun r => ((r = 0) ∨ (r = 1 ∧ zB x0 48 57)) ∧ (r.toInt = 0 → (x0.toInt < 48 ∨ 57 < x0.toInt)))) 0 0 (fun _ => False) := by
  refine Met.ofW (cc := cX12_isDigit) (maxL := 1) (ret := (some .boolean)) (by decide) rfl ?_
  intro p e s m args below meth c s₁ B hml hv
  obtain ⟨rfl, hP, hK⟩ := hv
  have hx := B.exec
  have hb := B.bytes
  have hr := B.returns
  have hts := atoms_spec (ws := wsX12_isDigit) B.pre
  have hown : s.vm.findClass RX12 = some m.cls := findClass_of_methodNamed B.named
  have hlocks := B.notSynchronized
  clear B
  have hl := lv_entry ([.int x0]) (n := 1) (Nat.le_of_ble_eq_true rfl)
  rw [lg_entry_eq]
  generalize (lg_sl ([.int x0]) ++ List.replicate (1 - (lg_sl ([.int x0])).length) Slot.unset).toArray = ls at hl ⊢
  replace hl : lv_has ls 1 [(0, .int x0)] := hl
  refine lv_iload_n hx hb dX12_isDigit_0 rfl (lv_at hl 0 rfl) ?_
  refine lv_bipush (v := 48) hx hb dX12_isDigit_1 (by decide) ?_
  refine lv_icmp_lt (tgt := 16) hx hb dX12_isDigit_3 (by decide) (fun c3 => ?_) (fun c3 => ?_)
  · have bx3t_x0 : zB x0 (-2147483648) 47 := zB_ltu (zl c3) (zB_top x0) (show zB 48 48 48 from ⟨by decide, by decide⟩) (by decide)
    refine lv_iconst (v := 0) hx hb dX12_isDigit_16 (by decide) ?_
    exact W.zret (v := 0) (ty := .boolean) hx hb hr (by decide) (fun t ht hW => ⟨0, rfl, ⟨Or.inl rfl, (by have h9_0 := (zl c3); have h9_1 := (show (0 : Int32).toInt = 0 from by decide); have h9_2 := (show (48 : Int32).toInt = 48 from by decide); have h9_3 := (bx3t_x0).1; have h9_4 := (bx3t_x0).2; have h9_5 := (show (1 : Int32).toInt = 1 from by decide); have h9_6 := (show ((-1) : Int32).toInt = (-1) from by decide); omega)⟩, ht⟩) (fun q hq => by cases hq) dX12_isDigit_17
  · have by3f_x0 : zB x0 48 2147483647 := zB_lev (zg c3) (show zB 48 48 48 from ⟨by decide, by decide⟩) (zB_top x0) (by decide)
    refine lv_iload_n hx hb dX12_isDigit_6 rfl (lv_at hl 0 rfl) ?_
    refine lv_bipush (v := 57) hx hb dX12_isDigit_7 (by decide) ?_
    refine lv_icmp_gt (tgt := 16) hx hb dX12_isDigit_9 (by decide) (fun c9 => ?_) (fun c9 => ?_)
    · have by9t_x0 : zB x0 58 2147483647 := zB_ltv (zl c9) (show zB 57 57 57 from ⟨by decide, by decide⟩) by3f_x0 (by decide)
      refine lv_iconst (v := 0) hx hb dX12_isDigit_16 (by decide) ?_
      exact W.zret (v := 0) (ty := .boolean) hx hb hr (by decide) (fun t ht hW => ⟨0, rfl, ⟨Or.inl rfl, (by have h9_0 := (zg c3); have h9_1 := (zl c9); have h9_2 := (show (0 : Int32).toInt = 0 from by decide); have h9_3 := (show (48 : Int32).toInt = 48 from by decide); have h9_4 := (show (57 : Int32).toInt = 57 from by decide); have h9_5 := (by9t_x0).1; have h9_6 := (by9t_x0).2; have h9_7 := (show (1 : Int32).toInt = 1 from by decide); have h9_8 := (show ((-1) : Int32).toInt = (-1) from by decide); omega)⟩, ht⟩) (fun q hq => by cases hq) dX12_isDigit_17
    · have bx9f_x0 : zB x0 48 57 := zB_leu (zg c9) by3f_x0 (show zB 57 57 57 from ⟨by decide, by decide⟩) (by decide)
      refine lv_iconst (v := 1) hx hb dX12_isDigit_12 (by decide) ?_
      refine lv_goto (tgt := 17) hx hb dX12_isDigit_13 (by decide) ?_
      exact W.zret (v := 1) (ty := .boolean) hx hb hr (by decide) (fun t ht hW => ⟨1, rfl, ⟨Or.inr (⟨rfl, bx9f_x0⟩), (by have h9_0 := (zg c3); have h9_1 := (zg c9); have h9_2 := (show (1 : Int32).toInt = 1 from by decide); have h9_3 := (show (48 : Int32).toInt = 48 from by decide); have h9_4 := (show (57 : Int32).toInt = 57 from by decide); have h9_5 := (bx9f_x0).1; have h9_6 := (bx9f_x0).2; have h9_7 := (show (0 : Int32).toInt = 0 from by decide); have h9_8 := (show ((-1) : Int32).toInt = (-1) from by decide); omega)⟩, ht⟩) (fun q hq => by cases hq) dX12_isDigit_17
set_option maxHeartbeats 4000000 in
set_option maxRecDepth 100000 in
theorem c_X12_isGood (l : Launch) (D : va_G) (cI : ClassId) (cB : ClassId) (cL : ClassId) (cZ : ClassId) (cG : ClassId) (MO : Nat) (aMO : Nat → Nat) (MO_taped : Int32) (MO_size : Int32) (MO_faultKind : Int32) (MO_faultPlace : Int32) (MO_at : Int32) (MO_end : Int32) (MO_token : Int32) (MO_number : Int32) (MO_name : Int64) (MO_bank : Int32) (MO_rb : Int32) (MO_codes : Int32) (MO_within : Int32) (MO_piled : Int32) (MO_unitsInRule : Int32) (MO_askThing : Int32) (MO_acts : Int32) (MO_undone : Int32) (MO_laid : Int32) (MO_heards : Int32) (MO_time : Int32) (b_MO_taped : zB MO_taped 0 1600) (b_MO_size : zB MO_size 0 1600) (b_MO_faultKind : zB MO_faultKind 0 5) (b_MO_at : zB MO_at 0 1600) (b_MO_end : zB MO_end 0 1600) (b_MO_token : zB MO_token 0 5) (b_MO_bank : zB MO_bank 0 1) (b_MO_rb : zB MO_rb 0 1) (b_MO_codes : zB MO_codes 0 1120) (b_MO_within : zB MO_within 0 7) (b_MO_piled : zB MO_piled 0 89) (b_MO_unitsInRule : zB MO_unitsInRule 0 30) (b_MO_askThing : zB MO_askThing 0 5) (b_MO_acts : zB MO_acts 0 40) (b_MO_undone : zB MO_undone 0 40) (b_MO_laid : zB MO_laid 0 8) (b_MO_heards : zB MO_heards 0 30) (b_MO_time : zB MO_time 0 100000) : Met l yX12_isGood wsX12_isGood ({ frames := 0, cells := 0, slots := 0, locals := 0 }) (xr D [(cI, .int), (cB, .byte), (cL, .long), (cZ, .boolean), (cG, .array .int)] [(MO, .inr (12, oX12 aMO MO_taped MO_size MO_faultKind MO_faultPlace MO_at MO_end MO_token MO_number MO_name MO_bank MO_rb MO_codes MO_within MO_piled MO_unitsInRule MO_askThing MO_acts MO_undone MO_laid MO_heards MO_time))] [.ref MO]) (vp_Si (fun r => (r = 0 ∧ zB MO_faultKind 1 5) ∨ (r = 1 ∧ zB MO_faultKind 0 0))) 0 0 (fun _ => False) := by
  refine Met.ofW (cc := cX12_isGood) (maxL := 1) (ret := (some .boolean)) (by decide) rfl ?_
  intro p e s m args below meth c s₁ B hml hv
  obtain ⟨rfl, hP, hK⟩ := hv
  have hx := B.exec
  have hb := B.bytes
  have hr := B.returns
  have hts := atoms_spec (ws := wsX12_isGood) B.pre
  have hown : s.vm.findClass RX12 = some m.cls := findClass_of_methodNamed B.named
  have hlocks := B.notSynchronized
  clear B
  have hl := lv_entry ([.ref MO]) (n := 1) (Nat.le_of_ble_eq_true rfl)
  rw [lg_entry_eq]
  generalize (lg_sl ([.ref MO]) ++ List.replicate (1 - (lg_sl ([.ref MO])).length) Slot.unset).toArray = ls at hl ⊢
  replace hl : lv_has ls 1 [(0, .ref MO)] := hl
  refine lv_aload_n hx hb dX12_isGood_0 rfl (lv_at hl 0 rfl) ?_
  refine va_get (D := D) (ci := 12) (v := .int MO_faultKind) (C := RX12) (T := TX12) (N := 71) hx hb hts iw_X12_isGood_X12 hown hK hP 0 rfl rfl 4 (by decide) (hts (.fieldLink RX12 176 "SoldHouseModel" "faultKind" "I") (List.mem_of_getElem? (i := 1) rfl)) (fun _ h9 => h9) rfl dX12_isGood_1 ?_
  refine lv_if_ne (tgt := 11) hx hb dX12_isGood_4 (by decide) (fun c4 => ?_) (fun c4 => ?_)
  · have bn4t_MO_faultKind : zB MO_faultKind 1 5 := zB_neL c4 b_MO_faultKind (show zB 0 0 0 from ⟨by decide, by decide⟩) (by decide)
    refine lv_iconst (v := 0) hx hb dX12_isGood_11 (by decide) ?_
    exact W.zret (v := 0) (ty := .boolean) hx hb hr (by decide) (fun t ht hW => ⟨0, rfl, Or.inl (⟨rfl, bn4t_MO_faultKind⟩), ht⟩) (fun q hq => by cases hq) dX12_isGood_12
  · have be4f_MO_faultKind : zB MO_faultKind 0 0 := zB_eq c4 b_MO_faultKind (show zB 0 0 0 from ⟨by decide, by decide⟩) (by decide) (by decide)
    refine lv_iconst (v := 1) hx hb dX12_isGood_7 (by decide) ?_
    refine lv_goto (tgt := 12) hx hb dX12_isGood_8 (by decide) ?_
    exact W.zret (v := 1) (ty := .boolean) hx hb hr (by decide) (fun t ht hW => ⟨1, rfl, Or.inr (⟨rfl, be4f_MO_faultKind⟩), ht⟩) (fun q hq => by cases hq) dX12_isGood_12
set_option maxHeartbeats 4000000 in
set_option maxRecDepth 100000 in
theorem c_X12_isKept (l : Launch) (D : va_G) (cI : ClassId) (cB : ClassId) (cL : ClassId) (cZ : ClassId) (cG : ClassId) (x0 : Int64) : Met l yX12_isKept wsX12_isKept ({ frames := 0, cells := 0, slots := 0, locals := 0 }) (xr D [(cI, .int), (cB, .byte), (cL, .long), (cZ, .boolean), (cG, .array .int)] [] [.long x0]) (vp_Si (fun r => zB r 0 1)) 0 0 (fun _ => False) := by
  refine Met.ofW (cc := cX12_isKept) (maxL := 3) (ret := (some .boolean)) (by decide) rfl ?_
  intro p e s m args below meth c s₁ B hml hv
  obtain ⟨rfl, hP, hK⟩ := hv
  have hx := B.exec
  have hb := B.bytes
  have hr := B.returns
  have hts := atoms_spec (ws := wsX12_isKept) B.pre
  have hown : s.vm.findClass RX12 = some m.cls := findClass_of_methodNamed B.named
  have hlocks := B.notSynchronized
  clear B
  have hl := lv_entry ([.long x0]) (n := 3) (Nat.le_of_ble_eq_true rfl)
  rw [lg_entry_eq]
  generalize (lg_sl ([.long x0]) ++ List.replicate (3 - (lg_sl ([.long x0])).length) Slot.unset).toArray = ls at hl ⊢
  replace hl : lv_has ls 3 [(0, .long x0)] := hl
  refine zz_abs (R := ({ frames := 0, cells := 0, slots := 0, locals := 0 } : Room)) (fun Q up => ?_)
  refine lv_lload_n hx hb dX12_isKept_0 rfl (lv_at hl 0 rfl) ?_
  refine lv_ldc2 hx hb hown (hts (.constantLong RX12 179 (1919905645)) (List.mem_of_getElem? (i := 1) rfl)) dX12_isKept_1 ?_
  refine W.lcmp hx hb dX12_isKept_4 ?_
  refine lv_topi (fun y4 _ => ?_)
  have j77 : ∀ (ls : Array Slot) (u77_0 : Int32), zB u77_0 0 1 → lv_has ls 3 [(0, .long x0)] → W p l e ({ frames := 0, cells := 0, slots := 0, locals := 0 } : Room) s m ([.long x0] : List Value).toArray below meth c s.heap [] 0 0 Q (F0 m 77 ls [.int u77_0]) := by
    intro ls u77_0 bu77_0_k77 hl
    refine lv_istore_n (lv' := [(2, .int u77_0), (0, .long x0)]) hx hb dX12_isKept_77 rfl hl (by decide) rfl (fun ls hl => ?_)
    refine lv_iload_n hx hb dX12_isKept_78 rfl (lv_at hl 0 rfl) ?_
    refine lv_if_ne (tgt := 146) hx hb dX12_isKept_79 (by decide) (fun c79 => ?_) (fun c79 => ?_)
    · have bn79t_u77_0 : zB u77_0 1 1 := zB_neL c79 bu77_0_k77 (show zB 0 0 0 from ⟨by decide, by decide⟩) (by decide)
      refine lv_iconst (v := 1) hx hb dX12_isKept_146 (by decide) ?_
      refine lv_goto (tgt := 151) hx hb dX12_isKept_147 (by decide) ?_
      exact up _ _ _ (W.zret (v := 1) (ty := .boolean) hx hb hr (by decide) (fun t ht hW => ⟨1, rfl, (zB_w (show zB 1 1 1 from ⟨by decide, by decide⟩) (by decide) (by decide)), ht⟩) (fun q hq => by cases hq) dX12_isKept_151)
    · have be79f_u77_0 : zB u77_0 0 0 := zB_eq c79 bu77_0_k77 (show zB 0 0 0 from ⟨by decide, by decide⟩) (by decide) (by decide)
      refine lv_lload_n hx hb dX12_isKept_82 rfl (lv_at hl 1 rfl) ?_
      refine lv_ldc2 hx hb hown (hts (.constantLong RX12 197 (1937076837)) (List.mem_of_getElem? (i := 10) rfl)) dX12_isKept_83 ?_
      refine W.lcmp hx hb dX12_isKept_86 ?_
      refine lv_topi (fun y86 _ => ?_)
      refine lv_if_eq (tgt := 146) hx hb dX12_isKept_87 (by decide) (fun c87 => ?_) (fun c87 => ?_)
      · have be87t_y86 : zB y86 0 0 := zB_eq c87 (zB_top y86) (show zB 0 0 0 from ⟨by decide, by decide⟩) (by decide) (by decide)
        refine lv_iconst (v := 1) hx hb dX12_isKept_146 (by decide) ?_
        refine lv_goto (tgt := 151) hx hb dX12_isKept_147 (by decide) ?_
        exact up _ _ _ (W.zret (v := 1) (ty := .boolean) hx hb hr (by decide) (fun t ht hW => ⟨1, rfl, (zB_w (show zB 1 1 1 from ⟨by decide, by decide⟩) (by decide) (by decide)), ht⟩) (fun q hq => by cases hq) dX12_isKept_151)
      · refine lv_lload_n hx hb dX12_isKept_90 rfl (lv_at hl 1 rfl) ?_
        refine lv_ldc2 hx hb hown (hts (.constantLong RX12 199 (1685217655)) (List.mem_of_getElem? (i := 11) rfl)) dX12_isKept_91 ?_
        refine W.lcmp hx hb dX12_isKept_94 ?_
        refine lv_topi (fun y94 _ => ?_)
        refine lv_if_eq (tgt := 146) hx hb dX12_isKept_95 (by decide) (fun c95 => ?_) (fun c95 => ?_)
        · have be95t_y94 : zB y94 0 0 := zB_eq c95 (zB_top y94) (show zB 0 0 0 from ⟨by decide, by decide⟩) (by decide) (by decide)
          refine lv_iconst (v := 1) hx hb dX12_isKept_146 (by decide) ?_
          refine lv_goto (tgt := 151) hx hb dX12_isKept_147 (by decide) ?_
          exact up _ _ _ (W.zret (v := 1) (ty := .boolean) hx hb hr (by decide) (fun t ht hW => ⟨1, rfl, (zB_w (show zB 1 1 1 from ⟨by decide, by decide⟩) (by decide) (by decide)), ht⟩) (fun q hq => by cases hq) dX12_isKept_151)
        · refine lv_lload_n hx hb dX12_isKept_98 rfl (lv_at hl 1 rfl) ?_
          refine lv_ldc2 hx hb hown (hts (.constantLong RX12 201 (6709618)) (List.mem_of_getElem? (i := 12) rfl)) dX12_isKept_99 ?_
          refine W.lcmp hx hb dX12_isKept_102 ?_
          refine lv_topi (fun y102 _ => ?_)
          refine lv_if_eq (tgt := 146) hx hb dX12_isKept_103 (by decide) (fun c103 => ?_) (fun c103 => ?_)
          · have be103t_y102 : zB y102 0 0 := zB_eq c103 (zB_top y102) (show zB 0 0 0 from ⟨by decide, by decide⟩) (by decide) (by decide)
            refine lv_iconst (v := 1) hx hb dX12_isKept_146 (by decide) ?_
            refine lv_goto (tgt := 151) hx hb dX12_isKept_147 (by decide) ?_
            exact up _ _ _ (W.zret (v := 1) (ty := .boolean) hx hb hr (by decide) (fun t ht hW => ⟨1, rfl, (zB_w (show zB 1 1 1 from ⟨by decide, by decide⟩) (by decide) (by decide)), ht⟩) (fun q hq => by cases hq) dX12_isKept_151)
          · refine lv_lload_n hx hb dX12_isKept_106 rfl (lv_at hl 1 rfl) ?_
            refine lv_ldc2 hx hb hown (hts (.constantLong RX12 203 (1953459300)) (List.mem_of_getElem? (i := 13) rfl)) dX12_isKept_107 ?_
            refine W.lcmp hx hb dX12_isKept_110 ?_
            refine lv_topi (fun y110 _ => ?_)
            refine lv_if_eq (tgt := 146) hx hb dX12_isKept_111 (by decide) (fun c111 => ?_) (fun c111 => ?_)
            · have be111t_y110 : zB y110 0 0 := zB_eq c111 (zB_top y110) (show zB 0 0 0 from ⟨by decide, by decide⟩) (by decide) (by decide)
              refine lv_iconst (v := 1) hx hb dX12_isKept_146 (by decide) ?_
              refine lv_goto (tgt := 151) hx hb dX12_isKept_147 (by decide) ?_
              exact up _ _ _ (W.zret (v := 1) (ty := .boolean) hx hb hr (by decide) (fun t ht hW => ⟨1, rfl, (zB_w (show zB 1 1 1 from ⟨by decide, by decide⟩) (by decide) (by decide)), ht⟩) (fun q hq => by cases hq) dX12_isKept_151)
            · refine lv_lload_n hx hb dX12_isKept_114 rfl (lv_at hl 1 rfl) ?_
              refine lv_ldc2 hx hb hown (hts (.constantLong RX12 205 (6578553)) (List.mem_of_getElem? (i := 14) rfl)) dX12_isKept_115 ?_
              refine W.lcmp hx hb dX12_isKept_118 ?_
              refine lv_topi (fun y118 _ => ?_)
              refine lv_if_eq (tgt := 146) hx hb dX12_isKept_119 (by decide) (fun c119 => ?_) (fun c119 => ?_)
              · have be119t_y118 : zB y118 0 0 := zB_eq c119 (zB_top y118) (show zB 0 0 0 from ⟨by decide, by decide⟩) (by decide) (by decide)
                refine lv_iconst (v := 1) hx hb dX12_isKept_146 (by decide) ?_
                refine lv_goto (tgt := 151) hx hb dX12_isKept_147 (by decide) ?_
                exact up _ _ _ (W.zret (v := 1) (ty := .boolean) hx hb hr (by decide) (fun t ht hW => ⟨1, rfl, (zB_w (show zB 1 1 1 from ⟨by decide, by decide⟩) (by decide) (by decide)), ht⟩) (fun q hq => by cases hq) dX12_isKept_151)
              · refine lv_lload_n hx hb dX12_isKept_122 rfl (lv_at hl 1 rfl) ?_
                refine lv_ldc2 hx hb hown (hts (.constantLong RX12 207 (28530)) (List.mem_of_getElem? (i := 15) rfl)) dX12_isKept_123 ?_
                refine W.lcmp hx hb dX12_isKept_126 ?_
                refine lv_topi (fun y126 _ => ?_)
                refine lv_if_eq (tgt := 146) hx hb dX12_isKept_127 (by decide) (fun c127 => ?_) (fun c127 => ?_)
                · have be127t_y126 : zB y126 0 0 := zB_eq c127 (zB_top y126) (show zB 0 0 0 from ⟨by decide, by decide⟩) (by decide) (by decide)
                  refine lv_iconst (v := 1) hx hb dX12_isKept_146 (by decide) ?_
                  refine lv_goto (tgt := 151) hx hb dX12_isKept_147 (by decide) ?_
                  exact up _ _ _ (W.zret (v := 1) (ty := .boolean) hx hb hr (by decide) (fun t ht hW => ⟨1, rfl, (zB_w (show zB 1 1 1 from ⟨by decide, by decide⟩) (by decide) (by decide)), ht⟩) (fun q hq => by cases hq) dX12_isKept_151)
                · refine lv_lload_n hx hb dX12_isKept_130 rfl (lv_at hl 1 rfl) ?_
                  refine lv_ldc2 hx hb hown (hts (.constantLong RX12 209 (6385252)) (List.mem_of_getElem? (i := 16) rfl)) dX12_isKept_131 ?_
                  refine W.lcmp hx hb dX12_isKept_134 ?_
                  refine lv_topi (fun y134 _ => ?_)
                  refine lv_if_eq (tgt := 146) hx hb dX12_isKept_135 (by decide) (fun c135 => ?_) (fun c135 => ?_)
                  · have be135t_y134 : zB y134 0 0 := zB_eq c135 (zB_top y134) (show zB 0 0 0 from ⟨by decide, by decide⟩) (by decide) (by decide)
                    refine lv_iconst (v := 1) hx hb dX12_isKept_146 (by decide) ?_
                    refine lv_goto (tgt := 151) hx hb dX12_isKept_147 (by decide) ?_
                    exact up _ _ _ (W.zret (v := 1) (ty := .boolean) hx hb hr (by decide) (fun t ht hW => ⟨1, rfl, (zB_w (show zB 1 1 1 from ⟨by decide, by decide⟩) (by decide) (by decide)), ht⟩) (fun q hq => by cases hq) dX12_isKept_151)
                  · refine lv_lload_n hx hb dX12_isKept_138 rfl (lv_at hl 1 rfl) ?_
                    refine lv_ldc2 hx hb hown (hts (.constantLong RX12 211 (7237492)) (List.mem_of_getElem? (i := 17) rfl)) dX12_isKept_139 ?_
                    refine W.lcmp hx hb dX12_isKept_142 ?_
                    refine lv_topi (fun y142 _ => ?_)
                    refine lv_if_ne (tgt := 150) hx hb dX12_isKept_143 (by decide) (fun c143 => ?_) (fun c143 => ?_)
                    · refine lv_iconst (v := 0) hx hb dX12_isKept_150 (by decide) ?_
                      exact up _ _ _ (W.zret (v := 0) (ty := .boolean) hx hb hr (by decide) (fun t ht hW => ⟨0, rfl, (zB_w (show zB 0 0 0 from ⟨by decide, by decide⟩) (by decide) (by decide)), ht⟩) (fun q hq => by cases hq) dX12_isKept_151)
                    · have be143f_y142 : zB y142 0 0 := zB_eq c143 (zB_top y142) (show zB 0 0 0 from ⟨by decide, by decide⟩) (by decide) (by decide)
                      refine lv_iconst (v := 1) hx hb dX12_isKept_146 (by decide) ?_
                      refine lv_goto (tgt := 151) hx hb dX12_isKept_147 (by decide) ?_
                      exact up _ _ _ (W.zret (v := 1) (ty := .boolean) hx hb hr (by decide) (fun t ht hW => ⟨1, rfl, (zB_w (show zB 1 1 1 from ⟨by decide, by decide⟩) (by decide) (by decide)), ht⟩) (fun q hq => by cases hq) dX12_isKept_151)
  have j72 : ∀ (ls : Array Slot), lv_has ls 3 [(0, .long x0)] → W p l e ({ frames := 0, cells := 0, slots := 0, locals := 0 } : Room) s m ([.long x0] : List Value).toArray below meth c s.heap [] 0 0 Q (F0 m 72 ls []) := by
    intro ls hl
    refine lv_iconst (v := 1) hx hb dX12_isKept_72 (by decide) ?_
    refine lv_goto (tgt := 77) hx hb dX12_isKept_73 (by decide) ?_
    exact j77 ls 1 (zB_w (show zB 1 1 1 from ⟨by decide, by decide⟩) (by decide) (by decide)) (lv_sub hl [0] rfl)
  refine lv_if_eq (tgt := 72) hx hb dX12_isKept_5 (by decide) (fun c5 => ?_) (fun c5 => ?_)
  · have be5t_y4 : zB y4 0 0 := zB_eq c5 (zB_top y4) (show zB 0 0 0 from ⟨by decide, by decide⟩) (by decide) (by decide)
    exact j72 ls (lv_sub hl [0] rfl)
  · refine lv_lload_n hx hb dX12_isKept_8 rfl (lv_at hl 0 rfl) ?_
    refine lv_ldc2 hx hb hown (hts (.constantLong RX12 181 (109342978304883)) (List.mem_of_getElem? (i := 2) rfl)) dX12_isKept_9 ?_
    refine W.lcmp hx hb dX12_isKept_12 ?_
    refine lv_topi (fun y12 _ => ?_)
    refine lv_if_eq (tgt := 72) hx hb dX12_isKept_13 (by decide) (fun c13 => ?_) (fun c13 => ?_)
    · have be13t_y12 : zB y12 0 0 := zB_eq c13 (zB_top y12) (show zB 0 0 0 from ⟨by decide, by decide⟩) (by decide) (by decide)
      exact j72 ls (lv_sub hl [0] rfl)
    · refine lv_lload_n hx hb dX12_isKept_16 rfl (lv_at hl 0 rfl) ?_
      refine lv_ldc2 hx hb hown (hts (.constantLong RX12 183 (1685024626)) (List.mem_of_getElem? (i := 3) rfl)) dX12_isKept_17 ?_
      refine W.lcmp hx hb dX12_isKept_20 ?_
      refine lv_topi (fun y20 _ => ?_)
      refine lv_if_eq (tgt := 72) hx hb dX12_isKept_21 (by decide) (fun c21 => ?_) (fun c21 => ?_)
      · have be21t_y20 : zB y20 0 0 := zB_eq c21 (zB_top y20) (show zB 0 0 0 from ⟨by decide, by decide⟩) (by decide) (by decide)
        exact j72 ls (lv_sub hl [0] rfl)
      · refine lv_lload_n hx hb dX12_isKept_24 rfl (lv_at hl 0 rfl) ?_
        refine lv_ldc2 hx hb hown (hts (.constantLong RX12 185 (499967946343)) (List.mem_of_getElem? (i := 4) rfl)) dX12_isKept_25 ?_
        refine W.lcmp hx hb dX12_isKept_28 ?_
        refine lv_topi (fun y28 _ => ?_)
        refine lv_if_eq (tgt := 72) hx hb dX12_isKept_29 (by decide) (fun c29 => ?_) (fun c29 => ?_)
        · have be29t_y28 : zB y28 0 0 := zB_eq c29 (zB_top y28) (show zB 0 0 0 from ⟨by decide, by decide⟩) (by decide) (by decide)
          exact j72 ls (lv_sub hl [0] rfl)
        · refine lv_lload_n hx hb dX12_isKept_32 rfl (lv_at hl 0 rfl) ?_
          refine lv_ldc2 hx hb hown (hts (.constantLong RX12 187 (26990)) (List.mem_of_getElem? (i := 5) rfl)) dX12_isKept_33 ?_
          refine W.lcmp hx hb dX12_isKept_36 ?_
          refine lv_topi (fun y36 _ => ?_)
          refine lv_if_eq (tgt := 72) hx hb dX12_isKept_37 (by decide) (fun c37 => ?_) (fun c37 => ?_)
          · have be37t_y36 : zB y36 0 0 := zB_eq c37 (zB_top y36) (show zB 0 0 0 from ⟨by decide, by decide⟩) (by decide) (by decide)
            exact j72 ls (lv_sub hl [0] rfl)
          · refine lv_lload_n hx hb dX12_isKept_40 rfl (lv_at hl 0 rfl) ?_
            refine lv_ldc2 hx hb hown (hts (.constantLong RX12 189 (7823731)) (List.mem_of_getElem? (i := 6) rfl)) dX12_isKept_41 ?_
            refine W.lcmp hx hb dX12_isKept_44 ?_
            refine lv_topi (fun y44 _ => ?_)
            refine lv_if_eq (tgt := 72) hx hb dX12_isKept_45 (by decide) (fun c45 => ?_) (fun c45 => ?_)
            · have be45t_y44 : zB y44 0 0 := zB_eq c45 (zB_top y44) (show zB 0 0 0 from ⟨by decide, by decide⟩) (by decide) (by decide)
              exact j72 ls (lv_sub hl [0] rfl)
            · refine lv_lload_n hx hb dX12_isKept_48 rfl (lv_at hl 0 rfl) ?_
              refine lv_ldc2 hx hb hown (hts (.constantLong RX12 191 (1869967987)) (List.mem_of_getElem? (i := 7) rfl)) dX12_isKept_49 ?_
              refine W.lcmp hx hb dX12_isKept_52 ?_
              refine lv_topi (fun y52 _ => ?_)
              refine lv_if_eq (tgt := 72) hx hb dX12_isKept_53 (by decide) (fun c53 => ?_) (fun c53 => ?_)
              · have be53t_y52 : zB y52 0 0 := zB_eq c53 (zB_top y52) (show zB 0 0 0 from ⟨by decide, by decide⟩) (by decide) (by decide)
                exact j72 ls (lv_sub hl [0] rfl)
              · refine lv_lload_n hx hb dX12_isKept_56 rfl (lv_at hl 0 rfl) ?_
                refine lv_ldc2 hx hb hown (hts (.constantLong RX12 193 (30067)) (List.mem_of_getElem? (i := 8) rfl)) dX12_isKept_57 ?_
                refine W.lcmp hx hb dX12_isKept_60 ?_
                refine lv_topi (fun y60 _ => ?_)
                refine lv_if_eq (tgt := 72) hx hb dX12_isKept_61 (by decide) (fun c61 => ?_) (fun c61 => ?_)
                · have be61t_y60 : zB y60 0 0 := zB_eq c61 (zB_top y60) (show zB 0 0 0 from ⟨by decide, by decide⟩) (by decide) (by decide)
                  exact j72 ls (lv_sub hl [0] rfl)
                · refine lv_lload_n hx hb dX12_isKept_64 rfl (lv_at hl 0 rfl) ?_
                  refine lv_ldc2 hx hb hown (hts (.constantLong RX12 195 (1952998765)) (List.mem_of_getElem? (i := 9) rfl)) dX12_isKept_65 ?_
                  refine W.lcmp hx hb dX12_isKept_68 ?_
                  refine lv_topi (fun y68 _ => ?_)
                  refine lv_if_ne (tgt := 76) hx hb dX12_isKept_69 (by decide) (fun c69 => ?_) (fun c69 => ?_)
                  · refine lv_iconst (v := 0) hx hb dX12_isKept_76 (by decide) ?_
                    exact j77 ls 0 (zB_w (show zB 0 0 0 from ⟨by decide, by decide⟩) (by decide) (by decide)) (lv_sub hl [0] rfl)
                  · have be69f_y68 : zB y68 0 0 := zB_eq c69 (zB_top y68) (show zB 0 0 0 from ⟨by decide, by decide⟩) (by decide) (by decide)
                    exact j72 ls (lv_sub hl [0] rfl)
set_option maxHeartbeats 4000000 in
set_option maxRecDepth 100000 in
theorem c_X12_isSign (l : Launch) (D : va_G) (cI : ClassId) (cB : ClassId) (cL : ClassId) (cZ : ClassId) (cG : ClassId) (x0 : Int32) : Met l yX12_isSign wsX12_isSign ({ frames := 0, cells := 0, slots := 0, locals := 0 }) (xr D [(cI, .int), (cB, .byte), (cL, .long), (cZ, .boolean), (cG, .array .int)] [] [.int x0]) (vp_Si (fun r => (r = 0) ∨ (r = 1 ∧ zB x0 37 62))) 0 0 (fun _ => False) := by
  refine Met.ofW (cc := cX12_isSign) (maxL := 1) (ret := (some .boolean)) (by decide) rfl ?_
  intro p e s m args below meth c s₁ B hml hv
  obtain ⟨rfl, hP, hK⟩ := hv
  have hx := B.exec
  have hb := B.bytes
  have hr := B.returns
  have hts := atoms_spec (ws := wsX12_isSign) B.pre
  have hown : s.vm.findClass RX12 = some m.cls := findClass_of_methodNamed B.named
  have hlocks := B.notSynchronized
  clear B
  have hl := lv_entry ([.int x0]) (n := 1) (Nat.le_of_ble_eq_true rfl)
  rw [lg_entry_eq]
  generalize (lg_sl ([.int x0]) ++ List.replicate (1 - (lg_sl ([.int x0])).length) Slot.unset).toArray = ls at hl ⊢
  replace hl : lv_has ls 1 [(0, .int x0)] := hl
  refine lv_iload_n hx hb dX12_isSign_0 rfl (lv_at hl 0 rfl) ?_
  refine lv_bipush (v := 59) hx hb dX12_isSign_1 (by decide) ?_
  refine lv_icmp_eq (tgt := 66) hx hb dX12_isSign_3 (by decide) (fun c3 => ?_) (fun c3 => ?_)
  · have be3t_x0 : zB x0 59 59 := zB_eq c3 (zB_top x0) (show zB 59 59 59 from ⟨by decide, by decide⟩) (by decide) (by decide)
    refine lv_iconst (v := 1) hx hb dX12_isSign_66 (by decide) ?_
    refine lv_goto (tgt := 71) hx hb dX12_isSign_67 (by decide) ?_
    exact W.zret (v := 1) (ty := .boolean) hx hb hr (by decide) (fun t ht hW => ⟨1, rfl, Or.inr (⟨rfl, (zB_w be3t_x0 (by decide) (by decide))⟩), ht⟩) (fun q hq => by cases hq) dX12_isSign_71
  · refine lv_iload_n hx hb dX12_isSign_6 rfl (lv_at hl 0 rfl) ?_
    refine lv_bipush (v := 40) hx hb dX12_isSign_7 (by decide) ?_
    refine lv_icmp_eq (tgt := 66) hx hb dX12_isSign_9 (by decide) (fun c9 => ?_) (fun c9 => ?_)
    · have be9t_x0 : zB x0 40 40 := zB_eq c9 (zB_top x0) (show zB 40 40 40 from ⟨by decide, by decide⟩) (by decide) (by decide)
      refine lv_iconst (v := 1) hx hb dX12_isSign_66 (by decide) ?_
      refine lv_goto (tgt := 71) hx hb dX12_isSign_67 (by decide) ?_
      exact W.zret (v := 1) (ty := .boolean) hx hb hr (by decide) (fun t ht hW => ⟨1, rfl, Or.inr (⟨rfl, (zB_w be9t_x0 (by decide) (by decide))⟩), ht⟩) (fun q hq => by cases hq) dX12_isSign_71
    · refine lv_iload_n hx hb dX12_isSign_12 rfl (lv_at hl 0 rfl) ?_
      refine lv_bipush (v := 41) hx hb dX12_isSign_13 (by decide) ?_
      refine lv_icmp_eq (tgt := 66) hx hb dX12_isSign_15 (by decide) (fun c15 => ?_) (fun c15 => ?_)
      · have be15t_x0 : zB x0 41 41 := zB_eq c15 (zB_top x0) (show zB 41 41 41 from ⟨by decide, by decide⟩) (by decide) (by decide)
        refine lv_iconst (v := 1) hx hb dX12_isSign_66 (by decide) ?_
        refine lv_goto (tgt := 71) hx hb dX12_isSign_67 (by decide) ?_
        exact W.zret (v := 1) (ty := .boolean) hx hb hr (by decide) (fun t ht hW => ⟨1, rfl, Or.inr (⟨rfl, (zB_w be15t_x0 (by decide) (by decide))⟩), ht⟩) (fun q hq => by cases hq) dX12_isSign_71
      · refine lv_iload_n hx hb dX12_isSign_18 rfl (lv_at hl 0 rfl) ?_
        refine lv_bipush (v := 60) hx hb dX12_isSign_19 (by decide) ?_
        refine lv_icmp_eq (tgt := 66) hx hb dX12_isSign_21 (by decide) (fun c21 => ?_) (fun c21 => ?_)
        · have be21t_x0 : zB x0 60 60 := zB_eq c21 (zB_top x0) (show zB 60 60 60 from ⟨by decide, by decide⟩) (by decide) (by decide)
          refine lv_iconst (v := 1) hx hb dX12_isSign_66 (by decide) ?_
          refine lv_goto (tgt := 71) hx hb dX12_isSign_67 (by decide) ?_
          exact W.zret (v := 1) (ty := .boolean) hx hb hr (by decide) (fun t ht hW => ⟨1, rfl, Or.inr (⟨rfl, (zB_w be21t_x0 (by decide) (by decide))⟩), ht⟩) (fun q hq => by cases hq) dX12_isSign_71
        · refine lv_iload_n hx hb dX12_isSign_24 rfl (lv_at hl 0 rfl) ?_
          refine lv_bipush (v := 62) hx hb dX12_isSign_25 (by decide) ?_
          refine lv_icmp_eq (tgt := 66) hx hb dX12_isSign_27 (by decide) (fun c27 => ?_) (fun c27 => ?_)
          · have be27t_x0 : zB x0 62 62 := zB_eq c27 (zB_top x0) (show zB 62 62 62 from ⟨by decide, by decide⟩) (by decide) (by decide)
            refine lv_iconst (v := 1) hx hb dX12_isSign_66 (by decide) ?_
            refine lv_goto (tgt := 71) hx hb dX12_isSign_67 (by decide) ?_
            exact W.zret (v := 1) (ty := .boolean) hx hb hr (by decide) (fun t ht hW => ⟨1, rfl, Or.inr (⟨rfl, (zB_w be27t_x0 (by decide) (by decide))⟩), ht⟩) (fun q hq => by cases hq) dX12_isSign_71
          · refine lv_iload_n hx hb dX12_isSign_30 rfl (lv_at hl 0 rfl) ?_
            refine lv_bipush (v := 61) hx hb dX12_isSign_31 (by decide) ?_
            refine lv_icmp_eq (tgt := 66) hx hb dX12_isSign_33 (by decide) (fun c33 => ?_) (fun c33 => ?_)
            · have be33t_x0 : zB x0 61 61 := zB_eq c33 (zB_top x0) (show zB 61 61 61 from ⟨by decide, by decide⟩) (by decide) (by decide)
              refine lv_iconst (v := 1) hx hb dX12_isSign_66 (by decide) ?_
              refine lv_goto (tgt := 71) hx hb dX12_isSign_67 (by decide) ?_
              exact W.zret (v := 1) (ty := .boolean) hx hb hr (by decide) (fun t ht hW => ⟨1, rfl, Or.inr (⟨rfl, (zB_w be33t_x0 (by decide) (by decide))⟩), ht⟩) (fun q hq => by cases hq) dX12_isSign_71
            · refine lv_iload_n hx hb dX12_isSign_36 rfl (lv_at hl 0 rfl) ?_
              refine lv_bipush (v := 43) hx hb dX12_isSign_37 (by decide) ?_
              refine lv_icmp_eq (tgt := 66) hx hb dX12_isSign_39 (by decide) (fun c39 => ?_) (fun c39 => ?_)
              · have be39t_x0 : zB x0 43 43 := zB_eq c39 (zB_top x0) (show zB 43 43 43 from ⟨by decide, by decide⟩) (by decide) (by decide)
                refine lv_iconst (v := 1) hx hb dX12_isSign_66 (by decide) ?_
                refine lv_goto (tgt := 71) hx hb dX12_isSign_67 (by decide) ?_
                exact W.zret (v := 1) (ty := .boolean) hx hb hr (by decide) (fun t ht hW => ⟨1, rfl, Or.inr (⟨rfl, (zB_w be39t_x0 (by decide) (by decide))⟩), ht⟩) (fun q hq => by cases hq) dX12_isSign_71
              · refine lv_iload_n hx hb dX12_isSign_42 rfl (lv_at hl 0 rfl) ?_
                refine lv_bipush (v := 45) hx hb dX12_isSign_43 (by decide) ?_
                refine lv_icmp_eq (tgt := 66) hx hb dX12_isSign_45 (by decide) (fun c45 => ?_) (fun c45 => ?_)
                · have be45t_x0 : zB x0 45 45 := zB_eq c45 (zB_top x0) (show zB 45 45 45 from ⟨by decide, by decide⟩) (by decide) (by decide)
                  refine lv_iconst (v := 1) hx hb dX12_isSign_66 (by decide) ?_
                  refine lv_goto (tgt := 71) hx hb dX12_isSign_67 (by decide) ?_
                  exact W.zret (v := 1) (ty := .boolean) hx hb hr (by decide) (fun t ht hW => ⟨1, rfl, Or.inr (⟨rfl, (zB_w be45t_x0 (by decide) (by decide))⟩), ht⟩) (fun q hq => by cases hq) dX12_isSign_71
                · refine lv_iload_n hx hb dX12_isSign_48 rfl (lv_at hl 0 rfl) ?_
                  refine lv_bipush (v := 42) hx hb dX12_isSign_49 (by decide) ?_
                  refine lv_icmp_eq (tgt := 66) hx hb dX12_isSign_51 (by decide) (fun c51 => ?_) (fun c51 => ?_)
                  · have be51t_x0 : zB x0 42 42 := zB_eq c51 (zB_top x0) (show zB 42 42 42 from ⟨by decide, by decide⟩) (by decide) (by decide)
                    refine lv_iconst (v := 1) hx hb dX12_isSign_66 (by decide) ?_
                    refine lv_goto (tgt := 71) hx hb dX12_isSign_67 (by decide) ?_
                    exact W.zret (v := 1) (ty := .boolean) hx hb hr (by decide) (fun t ht hW => ⟨1, rfl, Or.inr (⟨rfl, (zB_w be51t_x0 (by decide) (by decide))⟩), ht⟩) (fun q hq => by cases hq) dX12_isSign_71
                  · refine lv_iload_n hx hb dX12_isSign_54 rfl (lv_at hl 0 rfl) ?_
                    refine lv_bipush (v := 47) hx hb dX12_isSign_55 (by decide) ?_
                    refine lv_icmp_eq (tgt := 66) hx hb dX12_isSign_57 (by decide) (fun c57 => ?_) (fun c57 => ?_)
                    · have be57t_x0 : zB x0 47 47 := zB_eq c57 (zB_top x0) (show zB 47 47 47 from ⟨by decide, by decide⟩) (by decide) (by decide)
                      refine lv_iconst (v := 1) hx hb dX12_isSign_66 (by decide) ?_
                      refine lv_goto (tgt := 71) hx hb dX12_isSign_67 (by decide) ?_
                      exact W.zret (v := 1) (ty := .boolean) hx hb hr (by decide) (fun t ht hW => ⟨1, rfl, Or.inr (⟨rfl, (zB_w be57t_x0 (by decide) (by decide))⟩), ht⟩) (fun q hq => by cases hq) dX12_isSign_71
                    · refine lv_iload_n hx hb dX12_isSign_60 rfl (lv_at hl 0 rfl) ?_
                      refine lv_bipush (v := 37) hx hb dX12_isSign_61 (by decide) ?_
                      refine lv_icmp_ne (tgt := 70) hx hb dX12_isSign_63 (by decide) (fun c63 => ?_) (fun c63 => ?_)
                      · refine lv_iconst (v := 0) hx hb dX12_isSign_70 (by decide) ?_
                        exact W.zret (v := 0) (ty := .boolean) hx hb hr (by decide) (fun t ht hW => ⟨0, rfl, Or.inl rfl, ht⟩) (fun q hq => by cases hq) dX12_isSign_71
                      · have be63f_x0 : zB x0 37 37 := zB_eq c63 (zB_top x0) (show zB 37 37 37 from ⟨by decide, by decide⟩) (by decide) (by decide)
                        refine lv_iconst (v := 1) hx hb dX12_isSign_66 (by decide) ?_
                        refine lv_goto (tgt := 71) hx hb dX12_isSign_67 (by decide) ?_
                        exact W.zret (v := 1) (ty := .boolean) hx hb hr (by decide) (fun t ht hW => ⟨1, rfl, Or.inr (⟨rfl, (zB_w be63f_x0 (by decide) (by decide))⟩), ht⟩) (fun q hq => by cases hq) dX12_isSign_71
set_option maxHeartbeats 4000000 in
set_option maxRecDepth 100000 in
theorem c_X12_isIn (l : Launch) (D : va_G) (cI : ClassId) (cB : ClassId) (cL : ClassId) (cZ : ClassId) (cG : ClassId) (x0 : Int32) (x1 : Int32) (x2 : Int32) : Met l yX12_isIn wsX12_isIn ({ frames := 0, cells := 0, slots := 0, locals := 0 }) (xr D [(cI, .int), (cB, .byte), (cL, .long), (cZ, .boolean), (cG, .array .int)] [] [.int x0, .int x1, .int x2]) (vp_Si (fun r => (r = 0) ∨ (r = 1 ∧ x1.toInt ≤ x0.toInt ∧ x0.toInt ≤ x2.toInt))) 0 0 (fun _ => False) := by
  refine Met.ofW (cc := cX12_isIn) (maxL := 3) (ret := (some .boolean)) (by decide) rfl ?_
  intro p e s m args below meth c s₁ B hml hv
  obtain ⟨rfl, hP, hK⟩ := hv
  have hx := B.exec
  have hb := B.bytes
  have hr := B.returns
  have hts := atoms_spec (ws := wsX12_isIn) B.pre
  have hown : s.vm.findClass RX12 = some m.cls := findClass_of_methodNamed B.named
  have hlocks := B.notSynchronized
  clear B
  have hl := lv_entry ([.int x0, .int x1, .int x2]) (n := 3) (Nat.le_of_ble_eq_true rfl)
  rw [lg_entry_eq]
  generalize (lg_sl ([.int x0, .int x1, .int x2]) ++ List.replicate (3 - (lg_sl ([.int x0, .int x1, .int x2])).length) Slot.unset).toArray = ls at hl ⊢
  replace hl : lv_has ls 3 [(0, .int x0), (1, .int x1), (2, .int x2)] := hl
  refine lv_iload_n hx hb dX12_isIn_0 rfl (lv_at hl 0 rfl) ?_
  refine lv_iload_n hx hb dX12_isIn_1 rfl (lv_at hl 1 rfl) ?_
  refine lv_icmp_lt (tgt := 14) hx hb dX12_isIn_2 (by decide) (fun c2 => ?_) (fun c2 => ?_)
  · have bx2t_x0 : zB x0 (-2147483648) 2147483646 := zB_ltu (zl c2) (zB_top x0) (zB_top x1) (by decide)
    have by2t_x1 : zB x1 (-2147483647) 2147483647 := zB_ltv (zl c2) bx2t_x0 (zB_top x1) (by decide)
    refine lv_iconst (v := 0) hx hb dX12_isIn_14 (by decide) ?_
    exact W.zret (v := 0) (ty := .boolean) hx hb hr (by decide) (fun t ht hW => ⟨0, rfl, Or.inl rfl, ht⟩) (fun q hq => by cases hq) dX12_isIn_15
  · refine lv_iload_n hx hb dX12_isIn_5 rfl (lv_at hl 0 rfl) ?_
    refine lv_iload_n hx hb dX12_isIn_6 rfl (lv_at hl 2 rfl) ?_
    refine lv_icmp_gt (tgt := 14) hx hb dX12_isIn_7 (by decide) (fun c7 => ?_) (fun c7 => ?_)
    · have bx7t_x2 : zB x2 (-2147483648) 2147483646 := zB_ltu (zl c7) (zB_top x2) (zB_top x0) (by decide)
      have by7t_x0 : zB x0 (-2147483647) 2147483647 := zB_ltv (zl c7) bx7t_x2 (zB_top x0) (by decide)
      refine lv_iconst (v := 0) hx hb dX12_isIn_14 (by decide) ?_
      exact W.zret (v := 0) (ty := .boolean) hx hb hr (by decide) (fun t ht hW => ⟨0, rfl, Or.inl rfl, ht⟩) (fun q hq => by cases hq) dX12_isIn_15
    · refine lv_iconst (v := 1) hx hb dX12_isIn_10 (by decide) ?_
      refine lv_goto (tgt := 15) hx hb dX12_isIn_11 (by decide) ?_
      exact W.zret (v := 1) (ty := .boolean) hx hb hr (by decide) (fun t ht hW => ⟨1, rfl, Or.inr (⟨rfl, (zg c2), (zg c7)⟩), ht⟩) (fun q hq => by cases hq) dX12_isIn_15
set_option maxHeartbeats 4000000 in
set_option maxRecDepth 100000 in
theorem c_X12_sign (l : Launch) (D : va_G) (cI : ClassId) (cB : ClassId) (cL : ClassId) (cZ : ClassId) (cG : ClassId) (MO : Nat) (x0 : Int32) (aMO : Nat → Nat) (MO_taped : Int32) (MO_size : Int32) (MO_faultKind : Int32) (MO_faultPlace : Int32) (MO_at : Int32) (MO_end : Int32) (MO_token : Int32) (MO_number : Int32) (MO_name : Int64) (MO_bank : Int32) (MO_rb : Int32) (MO_codes : Int32) (MO_within : Int32) (MO_piled : Int32) (MO_unitsInRule : Int32) (MO_askThing : Int32) (MO_acts : Int32) (MO_undone : Int32) (MO_laid : Int32) (MO_heards : Int32) (MO_time : Int32) (MO_text : Nat → Int32) (b_x0 : zB x0 0 1600) (b_MO_taped : zB MO_taped 0 1600) (b_MO_size : zB MO_size 0 1600) (b_MO_faultKind : zB MO_faultKind 0 5) (b_MO_at : zB MO_at 0 1600) (b_MO_end : zB MO_end 0 1600) (b_MO_token : zB MO_token 0 5) (b_MO_bank : zB MO_bank 0 1) (b_MO_rb : zB MO_rb 0 1) (b_MO_codes : zB MO_codes 0 1120) (b_MO_within : zB MO_within 0 7) (b_MO_piled : zB MO_piled 0 89) (b_MO_unitsInRule : zB MO_unitsInRule 0 30) (b_MO_askThing : zB MO_askThing 0 5) (b_MO_acts : zB MO_acts 0 40) (b_MO_undone : zB MO_undone 0 40) (b_MO_laid : zB MO_laid 0 8) (b_MO_heards : zB MO_heards 0 30) (b_MO_time : zB MO_time 0 100000) : Met l yX12_sign wsX12_sign ({ frames := 0, cells := 0, slots := 0, locals := 0 }) (xr D [(cI, .int), (cB, .byte), (cL, .long), (cZ, .boolean), (cG, .array .int)] [(MO, .inr (12, oX12 aMO MO_taped MO_size MO_faultKind MO_faultPlace MO_at MO_end MO_token MO_number MO_name MO_bank MO_rb MO_codes MO_within MO_piled MO_unitsInRule MO_askThing MO_acts MO_undone MO_laid MO_heards MO_time)), ((aMO 1), .inl (cB, 1600, .inl MO_text))] [.ref MO, .int x0]) (vp_Si (fun r => (zB r 0 255) ∧ (r.toInt ≠ 0 → x0.toInt < MO_size.toInt) ∧ (r = zsg MO_text MO_size x0))) 0 0 (fun _ => False) := by
  refine Met.ofW (cc := cX12_sign) (maxL := 2) (ret := (some .int)) (by decide) rfl ?_
  intro p e s m args below meth c s₁ B hml hv
  obtain ⟨rfl, hP, hK⟩ := hv
  have hx := B.exec
  have hb := B.bytes
  have hr := B.returns
  have hts := atoms_spec (ws := wsX12_sign) B.pre
  have hown : s.vm.findClass RX12 = some m.cls := findClass_of_methodNamed B.named
  have hlocks := B.notSynchronized
  clear B
  have hl := lv_entry ([.ref MO, .int x0]) (n := 2) (Nat.le_of_ble_eq_true rfl)
  rw [lg_entry_eq]
  generalize (lg_sl ([.ref MO, .int x0]) ++ List.replicate (2 - (lg_sl ([.ref MO, .int x0])).length) Slot.unset).toArray = ls at hl ⊢
  replace hl : lv_has ls 2 [(0, .ref MO), (1, .int x0)] := hl
  refine lv_iload_n hx hb dX12_sign_0 rfl (lv_at hl 1 rfl) ?_
  refine lv_aload_n hx hb dX12_sign_1 rfl (lv_at hl 0 rfl) ?_
  refine va_get (D := D) (ci := 12) (v := .int MO_size) (C := RX12) (T := TX12) (N := 71) hx hb hts iw_X12_sign_X12 hown hK hP 0 rfl rfl 3 (by decide) (hts (.fieldLink RX12 173 "SoldHouseModel" "size" "I") (List.mem_of_getElem? (i := 1) rfl)) (fun _ h9 => h9) rfl dX12_sign_2 ?_
  refine lv_icmp_ge (tgt := 21) hx hb dX12_sign_5 (by decide) (fun c5 => ?_) (fun c5 => ?_)
  · refine lv_iconst (v := 0) hx hb dX12_sign_21 (by decide) ?_
    exact W.iret (v := 0) hx hb hr (fun t ht hW => ⟨0, rfl, ⟨(zB_w (show zB 0 0 0 from ⟨by decide, by decide⟩) (by decide) (by decide)), (by have h9_0 := (ze c5); have h9_1 := (show (0 : Int32).toInt = 0 from by decide); have h9_2 := (b_MO_size).1; have h9_3 := (b_MO_size).2; have h9_4 := (b_x0).1; have h9_5 := (b_x0).2; have h9_6 := (show (1 : Int32).toInt = 1 from by decide); have h9_7 := (show ((-1) : Int32).toInt = (-1) from by decide); omega), (by unfold zsg; rw [if_neg (by have := ze c5; omega)])⟩, ht⟩) (fun q hq => by cases hq) dX12_sign_22
  · have bx5f_x0 : zB x0 0 1599 := zB_ltu (zf c5) b_x0 b_MO_size (by decide)
    have by5f_MO_size : zB MO_size 1 1600 := zB_ltv (zf c5) bx5f_x0 b_MO_size (by decide)
    refine lv_aload_n hx hb dX12_sign_8 rfl (lv_at hl 0 rfl) ?_
    refine va_get (D := D) (ci := 12) (v := .ref (aMO 1)) (C := RX12) (T := TX12) (N := 71) hx hb hts iw_X12_sign_X12 hown hK hP 0 rfl rfl 1 (by decide) (hts (.fieldLink RX12 13 "SoldHouseModel" "text" "[B") (List.mem_of_getElem? (i := 2) rfl)) (fun _ h9 => h9) rfl dX12_sign_9 ?_
    refine lv_iload_n hx hb dX12_sign_12 rfl (lv_at hl 1 rfl) ?_
    refine va_bald hx hb hK hP 1 1 rfl rfl (zB_in bx5f_x0 (by decide) (by decide)) dX12_sign_13 ?_
    refine zi_top3 (P := fun y => True) (a := (-2147483648)) (b := 2147483647) (zB_top _) trivial (fun y13 ey13 by13 ry13 => ?_)
    clear ry13
    refine lv_sipush (v := 255) hx hb dX12_sign_14 (by decide) ?_
    refine lv_iand hx hb dX12_sign_17 ?_
    refine zi_top3 (P := fun y => True) (a := 0) (b := 255) (zB_andr (show zB 255 255 255 from ⟨by decide, by decide⟩) (by decide)) trivial (fun y17 ey17 by17 ry17 => ?_)
    clear ry17
    refine lv_goto (tgt := 22) hx hb dX12_sign_18 (by decide) ?_
    exact W.iret (v := y17) hx hb hr (fun t ht hW => ⟨y17, rfl, ⟨by17, (by have h9_0 := (zf c5); have h9_1 := (congrArg Int32.toInt ey13); have h9_2 := (by5f_MO_size).1; have h9_3 := (by5f_MO_size).2; have h9_4 := (bx5f_x0).1; have h9_5 := (bx5f_x0).2; have h9_6 := (by13).1; have h9_7 := (by13).2; have h9_8 := (by17).1; have h9_9 := (by17).2; have h9_10 := (show (0 : Int32).toInt = 0 from by decide); have h9_11 := (show (1 : Int32).toInt = 1 from by decide); have h9_12 := (show ((-1) : Int32).toInt = (-1) from by decide); omega), (by unfold zsg; rw [if_pos (zf c5), ey17, ey13])⟩, ht⟩) (fun q hq => by cases hq) dX12_sign_22
set_option maxHeartbeats 4000000 in
set_option maxRecDepth 100000 in
theorem c_X12_fails (l : Launch) (D : va_G) (cI : ClassId) (cB : ClassId) (cL : ClassId) (cZ : ClassId) (cG : ClassId) (MO : Nat) (x0 : Int32) (x1 : Int32) (aMO : Nat → Nat) (MO_taped : Int32) (MO_size : Int32) (MO_faultKind : Int32) (MO_faultPlace : Int32) (MO_at : Int32) (MO_end : Int32) (MO_token : Int32) (MO_number : Int32) (MO_name : Int64) (MO_bank : Int32) (MO_rb : Int32) (MO_codes : Int32) (MO_within : Int32) (MO_piled : Int32) (MO_unitsInRule : Int32) (MO_askThing : Int32) (MO_acts : Int32) (MO_undone : Int32) (MO_laid : Int32) (MO_heards : Int32) (MO_time : Int32) (sz : Nat) (b_x0 : zB x0 1 5) (b_MO_taped : zB MO_taped 0 1600) (b_MO_size : zB MO_size 0 1600) (b_MO_faultKind : zB MO_faultKind 0 5) (b_MO_at : zB MO_at 0 1600) (b_MO_end : zB MO_end 0 1600) (b_MO_token : zB MO_token 0 5) (b_MO_bank : zB MO_bank 0 1) (b_MO_rb : zB MO_rb 0 1) (b_MO_codes : zB MO_codes 0 1120) (b_MO_within : zB MO_within 0 7) (b_MO_piled : zB MO_piled 0 89) (b_MO_unitsInRule : zB MO_unitsInRule 0 30) (b_MO_askThing : zB MO_askThing 0 5) (b_MO_acts : zB MO_acts 0 40) (b_MO_undone : zB MO_undone 0 40) (b_MO_laid : zB MO_laid 0 8) (b_MO_heards : zB MO_heards 0 30) (b_MO_time : zB MO_time 0 100000) : Met l yX12_fails wsX12_fails ({ frames := 0, cells := 0, slots := 0, locals := 0 }) (xp D [(cI, .int), (cB, .byte), (cL, .long), (cZ, .boolean), (cG, .array .int)] [(MO, .inr (12, oX12 aMO MO_taped MO_size MO_faultKind MO_faultPlace MO_at MO_end MO_token MO_number MO_name MO_bank MO_rb MO_codes MO_within MO_piled MO_unitsInRule MO_askThing MO_acts MO_undone MO_laid MO_heards MO_time))] sz [] [.ref MO, .int x0, .int x1]) (va_Qv (fun _ : Unit => True) (fun (_ : Unit) (t : State) => ∃ (nMO_faultKind : Int32), ∃ (nMO_faultPlace : Int32), zB nMO_faultKind 1 5 ∧ xB D (va_A [(MO, .inr (12, oX12 aMO MO_taped MO_size MO_faultKind MO_faultPlace MO_at MO_end MO_token MO_number MO_name MO_bank MO_rb MO_codes MO_within MO_piled MO_unitsInRule MO_askThing MO_acts MO_undone MO_laid MO_heards MO_time))] sz) [(MO, .inr (12, oX12 aMO MO_taped MO_size nMO_faultKind nMO_faultPlace MO_at MO_end MO_token MO_number MO_name MO_bank MO_rb MO_codes MO_within MO_piled MO_unitsInRule MO_askThing MO_acts MO_undone MO_laid MO_heards MO_time))] t) (va_A [(MO, .inr (12, oX12 aMO MO_taped MO_size MO_faultKind MO_faultPlace MO_at MO_end MO_token MO_number MO_name MO_bank MO_rb MO_codes MO_within MO_piled MO_unitsInRule MO_askThing MO_acts MO_undone MO_laid MO_heards MO_time))] sz)) 0 0 (va_A [(MO, .inr (12, oX12 aMO MO_taped MO_size MO_faultKind MO_faultPlace MO_at MO_end MO_token MO_number MO_name MO_bank MO_rb MO_codes MO_within MO_piled MO_unitsInRule MO_askThing MO_acts MO_undone MO_laid MO_heards MO_time))] sz) := by
  refine Met.ofW (cc := cX12_fails) (maxL := 3) (ret := none) (by decide) rfl ?_
  intro p e s m args below meth c s₁ B hml hv
  obtain ⟨rfl, hsz, hP, hK, hD0, hNw⟩ := hv
  have hx := B.exec
  have hb := B.bytes
  have hr := B.returns
  have hts := atoms_spec (ws := wsX12_fails) B.pre
  have hown : s.vm.findClass RX12 = some m.cls := findClass_of_methodNamed B.named
  have hlocks := B.notSynchronized
  clear B
  subst hsz
  have hD := hD0.self (sz := s.heap.size)
  clear hD0 hNw
  generalize hAe : va_A [(MO, .inr (12, oX12 aMO MO_taped MO_size MO_faultKind MO_faultPlace MO_at MO_end MO_token MO_number MO_name MO_bank MO_rb MO_codes MO_within MO_piled MO_unitsInRule MO_askThing MO_acts MO_undone MO_laid MO_heards MO_time))] s.heap.size = A at hD ⊢
  have hA : ∀ q : Nat, s.heap.size ≤ q → A q := fun q h => by rw [← hAe]; exact Or.inr h
  have hS : va_S A s.heap s.heap [] := va_S.rf
  clear hAe
  obtain ⟨H, hH⟩ : ∃ H : Heap, H = s.heap := ⟨_, rfl⟩
  obtain ⟨locs, hlocs⟩ : ∃ L : List Loc, L = [] := ⟨_, rfl⟩
  replace hP : va_P D classes [(MO, .inr (12, oX12 aMO MO_taped MO_size MO_faultKind MO_faultPlace MO_at MO_end MO_token MO_number MO_name MO_bank MO_rb MO_codes MO_within MO_piled MO_unitsInRule MO_askThing MO_acts MO_undone MO_laid MO_heards MO_time))] H := by rw [hH]; exact hP
  replace hS : va_S A s.heap H locs := by rw [hH, hlocs]; exact hS
  rw [← hH, ← hlocs]
  clear hlocs hH
  have hl := lv_entry ([.ref MO, .int x0, .int x1]) (n := 3) (Nat.le_of_ble_eq_true rfl)
  rw [lg_entry_eq]
  generalize (lg_sl ([.ref MO, .int x0, .int x1]) ++ List.replicate (3 - (lg_sl ([.ref MO, .int x0, .int x1])).length) Slot.unset).toArray = ls at hl ⊢
  replace hl : lv_has ls 3 [(0, .ref MO), (1, .int x0), (2, .int x1)] := hl
  refine lv_aload_n hx hb dX12_fails_0 rfl (lv_at hl 0 rfl) ?_
  refine va_get (D := D) (ci := 12) (v := .int MO_faultKind) (C := RX12) (T := TX12) (N := 71) hx hb hts iw_X12_fails_X12 hown hK hP 0 rfl rfl 4 (by decide) (hts (.fieldLink RX12 176 "SoldHouseModel" "faultKind" "I") (List.mem_of_getElem? (i := 1) rfl)) (fun _ h9 => h9) rfl dX12_fails_1 ?_
  refine lv_if_le (tgt := 8) hx hb dX12_fails_4 (by decide) (fun c4 => ?_) (fun c4 => ?_)
  · have bx4t_MO_faultKind : zB MO_faultKind 0 0 := zB_leu (ze c4) b_MO_faultKind (show zB 0 0 0 from ⟨by decide, by decide⟩) (by decide)
    refine lv_aload_n hx hb dX12_fails_8 rfl (lv_at hl 0 rfl) ?_
    refine lv_iload_n hx hb dX12_fails_9 rfl (lv_at hl 1 rfl) ?_
    refine va_put (D := D) (ci := 12) (v := .int x0) (ty := tyX12 4) (C := RX12) (T := TX12) (N := 71) hx hb hts iw_X12_fails_X12 tyX12 tyX12_ok nmX12 hown hK hP hD hS 0 rfl rfl 4 (by decide) (hts (.fieldLink RX12 176 "SoldHouseModel" "faultKind" "I") (List.mem_of_getElem? (i := 1) rfl)) (fun _ h9 => h9) rfl (by decide +kernel) rfl rfl (Nat.le_of_ble_eq_true rfl) dX12_fails_10 (fun H locs hP hD hS => ?_)
    replace hP : va_P D classes [(MO, .inr (12, oX12 aMO MO_taped MO_size x0 MO_faultPlace MO_at MO_end MO_token MO_number MO_name MO_bank MO_rb MO_codes MO_within MO_piled MO_unitsInRule MO_askThing MO_acts MO_undone MO_laid MO_heards MO_time))] H := hP
    replace hD : va_D A [(MO, .inr (12, oX12 aMO MO_taped MO_size x0 MO_faultPlace MO_at MO_end MO_token MO_number MO_name MO_bank MO_rb MO_codes MO_within MO_piled MO_unitsInRule MO_askThing MO_acts MO_undone MO_laid MO_heards MO_time))] := hD
    refine lv_aload_n hx hb dX12_fails_13 rfl (lv_at hl 0 rfl) ?_
    refine lv_iload_n hx hb dX12_fails_14 rfl (lv_at hl 2 rfl) ?_
    refine va_put (D := D) (ci := 12) (v := .int x1) (ty := tyX12 5) (C := RX12) (T := TX12) (N := 71) hx hb hts iw_X12_fails_X12 tyX12 tyX12_ok nmX12 hown hK hP hD hS 0 rfl rfl 5 (by decide) (hts (.fieldLink RX12 16 "SoldHouseModel" "faultPlace" "I") (List.mem_of_getElem? (i := 2) rfl)) (fun _ h9 => h9) rfl (by decide +kernel) rfl rfl (Nat.le_of_ble_eq_true rfl) dX12_fails_15 (fun H locs hP hD hS => ?_)
    replace hP : va_P D classes [(MO, .inr (12, oX12 aMO MO_taped MO_size x0 x1 MO_at MO_end MO_token MO_number MO_name MO_bank MO_rb MO_codes MO_within MO_piled MO_unitsInRule MO_askThing MO_acts MO_undone MO_laid MO_heards MO_time))] H := hP
    replace hD : va_D A [(MO, .inr (12, oX12 aMO MO_taped MO_size x0 x1 MO_at MO_end MO_token MO_number MO_name MO_bank MO_rb MO_codes MO_within MO_piled MO_unitsInRule MO_askThing MO_acts MO_undone MO_laid MO_heards MO_time))] := hD
    exact W.vret hx hb hr (fun t ht hW => ⟨⟨(), rfl, trivial, ⟨x0, x1, b_x0, by rw [ht]; exact hP, hD⟩⟩, hS.F ht⟩) hS.2.2 dX12_fails_18
  · have by4f_MO_faultKind : zB MO_faultKind 1 5 := zB_ltv (zf c4) (show zB 0 0 0 from ⟨by decide, by decide⟩) b_MO_faultKind (by decide)
    exact W.vret hx hb hr (fun t ht hW => ⟨⟨(), rfl, trivial, ⟨MO_faultKind, MO_faultPlace, by4f_MO_faultKind, by rw [ht]; exact hP, hD⟩⟩, hS.F ht⟩) hS.2.2 dX12_fails_7
set_option maxHeartbeats 4000000 in
set_option maxRecDepth 100000 in
theorem c_X12_isWord (l : Launch) (D : va_G) (cI : ClassId) (cB : ClassId) (cL : ClassId) (cZ : ClassId) (cG : ClassId) (MO : Nat) (x0 : Int64) (aMO : Nat → Nat) (MO_taped : Int32) (MO_size : Int32) (MO_faultKind : Int32) (MO_faultPlace : Int32) (MO_at : Int32) (MO_end : Int32) (MO_token : Int32) (MO_number : Int32) (MO_name : Int64) (MO_bank : Int32) (MO_rb : Int32) (MO_codes : Int32) (MO_within : Int32) (MO_piled : Int32) (MO_unitsInRule : Int32) (MO_askThing : Int32) (MO_acts : Int32) (MO_undone : Int32) (MO_laid : Int32) (MO_heards : Int32) (MO_time : Int32) (b_MO_taped : zB MO_taped 0 1600) (b_MO_size : zB MO_size 0 1600) (b_MO_faultKind : zB MO_faultKind 0 5) (b_MO_at : zB MO_at 0 1600) (b_MO_end : zB MO_end 0 1600) (b_MO_token : zB MO_token 0 5) (b_MO_bank : zB MO_bank 0 1) (b_MO_rb : zB MO_rb 0 1) (b_MO_codes : zB MO_codes 0 1120) (b_MO_within : zB MO_within 0 7) (b_MO_piled : zB MO_piled 0 89) (b_MO_unitsInRule : zB MO_unitsInRule 0 30) (b_MO_askThing : zB MO_askThing 0 5) (b_MO_acts : zB MO_acts 0 40) (b_MO_undone : zB MO_undone 0 40) (b_MO_laid : zB MO_laid 0 8) (b_MO_heards : zB MO_heards 0 30) (b_MO_time : zB MO_time 0 100000) : Met l yX12_isWord wsX12_isWord ({ frames := 0, cells := 0, slots := 0, locals := 0 }) (xr D [(cI, .int), (cB, .byte), (cL, .long), (cZ, .boolean), (cG, .array .int)] [(MO, .inr (12, oX12 aMO MO_taped MO_size MO_faultKind MO_faultPlace MO_at MO_end MO_token MO_number MO_name MO_bank MO_rb MO_codes MO_within MO_piled MO_unitsInRule MO_askThing MO_acts MO_undone MO_laid MO_heards MO_time))] [.ref MO, .long x0]) (vp_Si (fun r => ((r = 0) ∨ (r = 1)) ∧ (r.toInt = 1 → MO_token.toInt = 3) ∧ (r.toInt = 1 → MO_name = x0) ∧ (r.toInt = 0 → MO_token.toInt = 3 → MO_name ≠ x0))) 0 0 (fun _ => False) := by
  refine Met.ofW (cc := cX12_isWord) (maxL := 3) (ret := (some .boolean)) (by decide) rfl ?_
  intro p e s m args below meth c s₁ B hml hv
  obtain ⟨rfl, hP, hK⟩ := hv
  have hx := B.exec
  have hb := B.bytes
  have hr := B.returns
  have hts := atoms_spec (ws := wsX12_isWord) B.pre
  have hown : s.vm.findClass RX12 = some m.cls := findClass_of_methodNamed B.named
  have hlocks := B.notSynchronized
  clear B
  have hl := lv_entry ([.ref MO, .long x0]) (n := 3) (Nat.le_of_ble_eq_true rfl)
  rw [lg_entry_eq]
  generalize (lg_sl ([.ref MO, .long x0]) ++ List.replicate (3 - (lg_sl ([.ref MO, .long x0])).length) Slot.unset).toArray = ls at hl ⊢
  replace hl : lv_has ls 3 [(0, .ref MO), (1, .long x0)] := hl
  refine lv_aload_n hx hb dX12_isWord_0 rfl (lv_at hl 0 rfl) ?_
  refine va_get (D := D) (ci := 12) (v := .int MO_token) (C := RX12) (T := TX12) (N := 71) hx hb hts iw_X12_isWord_X12 hown hK hP 0 rfl rfl 8 (by decide) (hts (.fieldLink RX12 223 "SoldHouseModel" "token" "I") (List.mem_of_getElem? (i := 1) rfl)) (fun _ h9 => h9) rfl dX12_isWord_1 ?_
  refine lv_iconst (v := 3) hx hb dX12_isWord_4 (by decide) ?_
  refine lv_icmp_ne (tgt := 21) hx hb dX12_isWord_5 (by decide) (fun c5 => ?_) (fun c5 => ?_)
  · refine lv_iconst (v := 0) hx hb dX12_isWord_21 (by decide) ?_
    exact W.zret (v := 0) (ty := .boolean) hx hb hr (by decide) (fun t ht hW => ⟨0, rfl, ⟨Or.inl rfl, (by have h9_0 := (zne c5); have h9_1 := (show (0 : Int32).toInt = 0 from by decide); have h9_2 := (show (3 : Int32).toInt = 3 from by decide); have h9_3 := (b_MO_token).1; have h9_4 := (b_MO_token).2; have h9_5 := (show (1 : Int32).toInt = 1 from by decide); have h9_6 := (show ((-1) : Int32).toInt = (-1) from by decide); omega), (fun h => absurd h (by decide)), (fun _ h => absurd (Int32.toInt_inj.mp (h.trans (show (3 : Int) = (3 : Int32).toInt from by decide))) c5)⟩, ht⟩) (fun q hq => by cases hq) dX12_isWord_22
  · have be5f_MO_token : zB MO_token 3 3 := zB_eq c5 b_MO_token (show zB 3 3 3 from ⟨by decide, by decide⟩) (by decide) (by decide)
    refine lv_aload_n hx hb dX12_isWord_8 rfl (lv_at hl 0 rfl) ?_
    refine va_get (D := D) (ci := 12) (v := .long MO_name) (C := RX12) (T := TX12) (N := 71) hx hb hts iw_X12_isWord_X12 hown hK hP 0 rfl rfl 10 (by decide) (hts (.fieldLink RX12 230 "SoldHouseModel" "name" "J") (List.mem_of_getElem? (i := 2) rfl)) (fun _ h9 => h9) rfl dX12_isWord_9 ?_
    refine lv_lload_n hx hb dX12_isWord_12 rfl (lv_at hl 1 rfl) ?_
    refine W.lcmp hx hb dX12_isWord_13 ?_
    refine zi_top3 (P := fun y => True) (a := (-2147483648)) (b := 2147483647) (zB_top _) trivial (fun y13 ey13 by13 ry13 => ?_)
    clear ry13
    refine lv_if_ne (tgt := 21) hx hb dX12_isWord_14 (by decide) (fun c14 => ?_) (fun c14 => ?_)
    · refine lv_iconst (v := 0) hx hb dX12_isWord_21 (by decide) ?_
      exact W.zret (v := 0) (ty := .boolean) hx hb hr (by decide) (fun t ht hW => ⟨0, rfl, ⟨Or.inl rfl, (by have h9_0 := (congrArg Int32.toInt c5); have h9_1 := (show (0 : Int32).toInt = 0 from by decide); have h9_2 := (show (3 : Int32).toInt = 3 from by decide); have h9_3 := (be5f_MO_token).1; have h9_4 := (be5f_MO_token).2; have h9_5 := (show (1 : Int32).toInt = 1 from by decide); have h9_6 := (show ((-1) : Int32).toInt = (-1) from by decide); omega), (fun h => absurd h (by decide)), (fun _ _ => zlcn ey13 c14)⟩, ht⟩) (fun q hq => by cases hq) dX12_isWord_22
    · have be14f_y13 : zB y13 0 0 := zB_eq c14 by13 (show zB 0 0 0 from ⟨by decide, by decide⟩) (by decide) (by decide)
      refine lv_iconst (v := 1) hx hb dX12_isWord_17 (by decide) ?_
      refine lv_goto (tgt := 22) hx hb dX12_isWord_18 (by decide) ?_
      exact W.zret (v := 1) (ty := .boolean) hx hb hr (by decide) (fun t ht hW => ⟨1, rfl, ⟨Or.inr (rfl), (by have h9_0 := (congrArg Int32.toInt c5); have h9_1 := (show (1 : Int32).toInt = 1 from by decide); have h9_2 := (show (3 : Int32).toInt = 3 from by decide); have h9_3 := (be5f_MO_token).1; have h9_4 := (be5f_MO_token).2; have h9_5 := (show (0 : Int32).toInt = 0 from by decide); have h9_6 := (show ((-1) : Int32).toInt = (-1) from by decide); omega), (fun _ => zlc ey13 c14), (fun h => absurd h (by decide))⟩, ht⟩) (fun q hq => by cases hq) dX12_isWord_22
set_option maxHeartbeats 4000000 in
set_option maxRecDepth 100000 in
theorem c_X12_isSignHere (l : Launch) (D : va_G) (cI : ClassId) (cB : ClassId) (cL : ClassId) (cZ : ClassId) (cG : ClassId) (MO : Nat) (x0 : Int32) (aMO : Nat → Nat) (MO_taped : Int32) (MO_size : Int32) (MO_faultKind : Int32) (MO_faultPlace : Int32) (MO_at : Int32) (MO_end : Int32) (MO_token : Int32) (MO_number : Int32) (MO_name : Int64) (MO_bank : Int32) (MO_rb : Int32) (MO_codes : Int32) (MO_within : Int32) (MO_piled : Int32) (MO_unitsInRule : Int32) (MO_askThing : Int32) (MO_acts : Int32) (MO_undone : Int32) (MO_laid : Int32) (MO_heards : Int32) (MO_time : Int32) (MO_text : Nat → Int32) (b_MO_taped : zB MO_taped 0 1600) (b_MO_size : zB MO_size 0 1600) (b_MO_faultKind : zB MO_faultKind 0 5) (b_MO_at : zB MO_at 0 1600) (b_MO_end : zB MO_end 0 1600) (b_MO_token : zB MO_token 0 5) (b_MO_bank : zB MO_bank 0 1) (b_MO_rb : zB MO_rb 0 1) (b_MO_codes : zB MO_codes 0 1120) (b_MO_within : zB MO_within 0 7) (b_MO_piled : zB MO_piled 0 89) (b_MO_unitsInRule : zB MO_unitsInRule 0 30) (b_MO_askThing : zB MO_askThing 0 5) (b_MO_acts : zB MO_acts 0 40) (b_MO_undone : zB MO_undone 0 40) (b_MO_laid : zB MO_laid 0 8) (b_MO_heards : zB MO_heards 0 30) (b_MO_time : zB MO_time 0 100000) : Met l yX12_isSignHere wsX12_isSignHere ({ frames := 1, cells := 0, slots := 0, locals := 21 }) (xr D [(cI, .int), (cB, .byte), (cL, .long), (cZ, .boolean), (cG, .array .int)] [(MO, .inr (12, oX12 aMO MO_taped MO_size MO_faultKind MO_faultPlace MO_at MO_end MO_token MO_number MO_name MO_bank MO_rb MO_codes MO_within MO_piled MO_unitsInRule MO_askThing MO_acts MO_undone MO_laid MO_heards MO_time)), ((aMO 1), .inl (cB, 1600, .inl MO_text))] [.ref MO, .int x0]) (vp_Si (fun r => ((r = 0) ∨ (r = 1 ∧ zB x0 0 255)) ∧ (r.toInt = 1 → MO_token.toInt = 5) ∧ (r.toInt = 1 → (zsg MO_text MO_size MO_at).toInt = x0.toInt))) 0 0 (fun _ => False) := by
  refine Met.ofW (cc := cX12_isSignHere) (maxL := 2) (ret := (some .boolean)) (by decide) rfl ?_
  intro p e s m args below meth c s₁ B hml hv
  obtain ⟨rfl, hP, hK⟩ := hv
  have hx := B.exec
  have hb := B.bytes
  have hr := B.returns
  have hts := atoms_spec (ws := wsX12_isSignHere) B.pre
  have hown : s.vm.findClass RX12 = some m.cls := findClass_of_methodNamed B.named
  have hlocks := B.notSynchronized
  clear B
  have hl := lv_entry ([.ref MO, .int x0]) (n := 2) (Nat.le_of_ble_eq_true rfl)
  rw [lg_entry_eq]
  generalize (lg_sl ([.ref MO, .int x0]) ++ List.replicate (2 - (lg_sl ([.ref MO, .int x0])).length) Slot.unset).toArray = ls at hl ⊢
  replace hl : lv_has ls 2 [(0, .ref MO), (1, .int x0)] := hl
  refine lv_aload_n hx hb dX12_isSignHere_0 rfl (lv_at hl 0 rfl) ?_
  refine va_get (D := D) (ci := 12) (v := .int MO_token) (C := RX12) (T := TX12) (N := 71) hx hb hts iw_X12_isSignHere_X12 hown hK hP 0 rfl rfl 8 (by decide) (hts (.fieldLink RX12 223 "SoldHouseModel" "token" "I") (List.mem_of_getElem? (i := 1) rfl)) (fun _ h9 => h9) rfl dX12_isSignHere_1 ?_
  refine lv_iconst (v := 5) hx hb dX12_isSignHere_4 (by decide) ?_
  refine lv_icmp_ne (tgt := 24) hx hb dX12_isSignHere_5 (by decide) (fun c5 => ?_) (fun c5 => ?_)
  · have bn5t_MO_token : zB MO_token 0 4 := zB_neH c5 b_MO_token (show zB 5 5 5 from ⟨by decide, by decide⟩) (by decide)
    refine lv_iconst (v := 0) hx hb dX12_isSignHere_24 (by decide) ?_
    exact W.zret (v := 0) (ty := .boolean) hx hb hr (by decide) (fun t ht hW => ⟨0, rfl, ⟨Or.inl rfl, (by have h9_0 := (zne c5); have h9_1 := (show (0 : Int32).toInt = 0 from by decide); have h9_2 := (show (5 : Int32).toInt = 5 from by decide); have h9_3 := (bn5t_MO_token).1; have h9_4 := (bn5t_MO_token).2; have h9_5 := (show (1 : Int32).toInt = 1 from by decide); have h9_6 := (show ((-1) : Int32).toInt = (-1) from by decide); omega), (fun h => absurd h (by decide))⟩, ht⟩) (fun q hq => by cases hq) dX12_isSignHere_25
  · have be5f_MO_token : zB MO_token 5 5 := zB_eq c5 b_MO_token (show zB 5 5 5 from ⟨by decide, by decide⟩) (by decide) (by decide)
    refine lv_aload_n hx hb dX12_isSignHere_8 rfl (lv_at hl 0 rfl) ?_
    refine lv_aload_n hx hb dX12_isSignHere_9 rfl (lv_at hl 0 rfl) ?_
    refine va_get (D := D) (ci := 12) (v := .int MO_at) (C := RX12) (T := TX12) (N := 71) hx hb hts iw_X12_isSignHere_X12 hown hK hP 0 rfl rfl 6 (by decide) (hts (.fieldLink RX12 216 "SoldHouseModel" "at" "I") (List.mem_of_getElem? (i := 2) rfl)) (fun _ h9 => h9) rfl dX12_isSignHere_10 ?_
    have hPc := hP.sub (ws' := [(MO, .inr (12, oX12 aMO MO_taped MO_size MO_faultKind MO_faultPlace MO_at MO_end MO_token MO_number MO_name MO_bank MO_rb MO_codes MO_within MO_piled MO_unitsInRule MO_askThing MO_acts MO_undone MO_laid MO_heards MO_time)), ((aMO 1), .inl (cB, 1600, .inl MO_text))]) [0, 1] rfl
    refine vp_callSi (va_runV (As := [.int MO_at]) (rest := []) ⟨hx, hb, hml, hown, hts⟩ (c_X12_sign l D cI cB cL cZ cG MO MO_at aMO MO_taped MO_size MO_faultKind MO_faultPlace MO_at MO_end MO_token MO_number MO_name MO_bank MO_rb MO_codes MO_within MO_piled MO_unitsInRule MO_askThing MO_acts MO_undone MO_laid MO_heards MO_time MO_text b_MO_at b_MO_taped b_MO_size b_MO_faultKind b_MO_at b_MO_end (zB_w be5f_MO_token (by decide) (by decide)) b_MO_bank b_MO_rb b_MO_codes b_MO_within b_MO_piled b_MO_unitsInRule b_MO_askThing b_MO_acts b_MO_undone b_MO_laid b_MO_heards b_MO_time) (cwV 1 hts gX12_isSignHere_X12_sign rfl rfl rfl (by decide +kernel) ⟨Nat.le_of_ble_eq_true rfl, Nat.le_of_ble_eq_true rfl⟩) ⟨xr_blind, va_recv hK hP (ci := 12) (q0 := 0) rfl rfl, fun U hU hW => xr_mk hU hW hPc hK⟩ rfl rfl hl.1 rfl (lv_room (Nat.le_of_ble_eq_true rfl)) dX12_isSignHere_13 ⟨Nat.le_of_ble_eq_true rfl, Nat.le_of_ble_eq_true rfl⟩).run (fun r13 hr13 => ?_)
    obtain ⟨hr13, p13_lt, p13_fn⟩ := hr13
    clear hPc
    refine lv_iload_n hx hb dX12_isSignHere_16 rfl (lv_at hl 1 rfl) ?_
    refine lv_icmp_ne (tgt := 24) hx hb dX12_isSignHere_17 (by decide) (fun c17 => ?_) (fun c17 => ?_)
    · refine lv_iconst (v := 0) hx hb dX12_isSignHere_24 (by decide) ?_
      exact W.zret (v := 0) (ty := .boolean) hx hb hr (by decide) (fun t ht hW => ⟨0, rfl, ⟨Or.inl rfl, (by have h9_0 := (congrArg Int32.toInt c5); have h9_1 := (show (0 : Int32).toInt = 0 from by decide); have h9_2 := (show (5 : Int32).toInt = 5 from by decide); have h9_3 := (be5f_MO_token).1; have h9_4 := (be5f_MO_token).2; have h9_5 := (show (1 : Int32).toInt = 1 from by decide); have h9_6 := (show ((-1) : Int32).toInt = (-1) from by decide); omega), (fun h => absurd h (by decide))⟩, ht⟩) (fun q hq => by cases hq) dX12_isSignHere_25
    · have be17f_x0 : zB x0 0 255 := zB_eq (Eq.symm c17) (zB_top x0) hr13 (by decide) (by decide)
      refine lv_iconst (v := 1) hx hb dX12_isSignHere_20 (by decide) ?_
      refine lv_goto (tgt := 25) hx hb dX12_isSignHere_21 (by decide) ?_
      exact W.zret (v := 1) (ty := .boolean) hx hb hr (by decide) (fun t ht hW => ⟨1, rfl, ⟨Or.inr (⟨rfl, be17f_x0⟩), (by have h9_0 := (congrArg Int32.toInt c5); have h9_1 := (show (1 : Int32).toInt = 1 from by decide); have h9_2 := (show (5 : Int32).toInt = 5 from by decide); have h9_3 := (be5f_MO_token).1; have h9_4 := (be5f_MO_token).2; have h9_5 := (show (0 : Int32).toInt = 0 from by decide); have h9_6 := (show ((-1) : Int32).toInt = (-1) from by decide); omega), (fun _ => by rw [← p13_fn, c17])⟩, ht⟩) (fun q hq => by cases hq) dX12_isSignHere_25
set_option maxHeartbeats 4000000 in
set_option maxRecDepth 100000 in
theorem c_X12_misplaced (l : Launch) (D : va_G) (cI : ClassId) (cB : ClassId) (cL : ClassId) (cZ : ClassId) (cG : ClassId) (MO : Nat) (aMO : Nat → Nat) (MO_taped : Int32) (MO_size : Int32) (MO_faultKind : Int32) (MO_faultPlace : Int32) (MO_at : Int32) (MO_end : Int32) (MO_token : Int32) (MO_number : Int32) (MO_name : Int64) (MO_bank : Int32) (MO_rb : Int32) (MO_codes : Int32) (MO_within : Int32) (MO_piled : Int32) (MO_unitsInRule : Int32) (MO_askThing : Int32) (MO_acts : Int32) (MO_undone : Int32) (MO_laid : Int32) (MO_heards : Int32) (MO_time : Int32) (sz : Nat) (b_MO_taped : zB MO_taped 0 1600) (b_MO_size : zB MO_size 0 1600) (b_MO_faultKind : zB MO_faultKind 0 5) (b_MO_at : zB MO_at 0 1600) (b_MO_end : zB MO_end 0 1600) (b_MO_token : zB MO_token 0 5) (b_MO_bank : zB MO_bank 0 1) (b_MO_rb : zB MO_rb 0 1) (b_MO_codes : zB MO_codes 0 1120) (b_MO_within : zB MO_within 0 7) (b_MO_piled : zB MO_piled 0 89) (b_MO_unitsInRule : zB MO_unitsInRule 0 30) (b_MO_askThing : zB MO_askThing 0 5) (b_MO_acts : zB MO_acts 0 40) (b_MO_undone : zB MO_undone 0 40) (b_MO_laid : zB MO_laid 0 8) (b_MO_heards : zB MO_heards 0 30) (b_MO_time : zB MO_time 0 100000) : Met l yX12_misplaced wsX12_misplaced ({ frames := 1, cells := 0, slots := 0, locals := 22 }) (xp D [(cI, .int), (cB, .byte), (cL, .long), (cZ, .boolean), (cG, .array .int)] [(MO, .inr (12, oX12 aMO MO_taped MO_size MO_faultKind MO_faultPlace MO_at MO_end MO_token MO_number MO_name MO_bank MO_rb MO_codes MO_within MO_piled MO_unitsInRule MO_askThing MO_acts MO_undone MO_laid MO_heards MO_time))] sz [] [.ref MO]) (va_Qv (fun _ : Unit => True) (fun (_ : Unit) (t : State) => ∃ (nMO_faultKind : Int32), ∃ (nMO_faultPlace : Int32), zB nMO_faultKind 1 5 ∧ xB D (va_A [(MO, .inr (12, oX12 aMO MO_taped MO_size MO_faultKind MO_faultPlace MO_at MO_end MO_token MO_number MO_name MO_bank MO_rb MO_codes MO_within MO_piled MO_unitsInRule MO_askThing MO_acts MO_undone MO_laid MO_heards MO_time))] sz) [(MO, .inr (12, oX12 aMO MO_taped MO_size nMO_faultKind nMO_faultPlace MO_at MO_end MO_token MO_number MO_name MO_bank MO_rb MO_codes MO_within MO_piled MO_unitsInRule MO_askThing MO_acts MO_undone MO_laid MO_heards MO_time))] t) (va_A [(MO, .inr (12, oX12 aMO MO_taped MO_size MO_faultKind MO_faultPlace MO_at MO_end MO_token MO_number MO_name MO_bank MO_rb MO_codes MO_within MO_piled MO_unitsInRule MO_askThing MO_acts MO_undone MO_laid MO_heards MO_time))] sz)) 0 0 (va_A [(MO, .inr (12, oX12 aMO MO_taped MO_size MO_faultKind MO_faultPlace MO_at MO_end MO_token MO_number MO_name MO_bank MO_rb MO_codes MO_within MO_piled MO_unitsInRule MO_askThing MO_acts MO_undone MO_laid MO_heards MO_time))] sz) := by
  refine Met.ofW (cc := cX12_misplaced) (maxL := 1) (ret := none) (by decide) rfl ?_
  intro p e s m args below meth c s₁ B hml hv
  obtain ⟨rfl, hsz, hP, hK, hD0, hNw⟩ := hv
  have hx := B.exec
  have hb := B.bytes
  have hr := B.returns
  have hts := atoms_spec (ws := wsX12_misplaced) B.pre
  have hown : s.vm.findClass RX12 = some m.cls := findClass_of_methodNamed B.named
  have hlocks := B.notSynchronized
  clear B
  subst hsz
  have hD := hD0.self (sz := s.heap.size)
  clear hD0 hNw
  generalize hAe : va_A [(MO, .inr (12, oX12 aMO MO_taped MO_size MO_faultKind MO_faultPlace MO_at MO_end MO_token MO_number MO_name MO_bank MO_rb MO_codes MO_within MO_piled MO_unitsInRule MO_askThing MO_acts MO_undone MO_laid MO_heards MO_time))] s.heap.size = A at hD ⊢
  have hA : ∀ q : Nat, s.heap.size ≤ q → A q := fun q h => by rw [← hAe]; exact Or.inr h
  have hS : va_S A s.heap s.heap [] := va_S.rf
  clear hAe
  obtain ⟨H, hH⟩ : ∃ H : Heap, H = s.heap := ⟨_, rfl⟩
  obtain ⟨locs, hlocs⟩ : ∃ L : List Loc, L = [] := ⟨_, rfl⟩
  replace hP : va_P D classes [(MO, .inr (12, oX12 aMO MO_taped MO_size MO_faultKind MO_faultPlace MO_at MO_end MO_token MO_number MO_name MO_bank MO_rb MO_codes MO_within MO_piled MO_unitsInRule MO_askThing MO_acts MO_undone MO_laid MO_heards MO_time))] H := by rw [hH]; exact hP
  replace hS : va_S A s.heap H locs := by rw [hH, hlocs]; exact hS
  rw [← hH, ← hlocs]
  clear hlocs hH
  have hl := lv_entry ([.ref MO]) (n := 1) (Nat.le_of_ble_eq_true rfl)
  rw [lg_entry_eq]
  generalize (lg_sl ([.ref MO]) ++ List.replicate (1 - (lg_sl ([.ref MO])).length) Slot.unset).toArray = ls at hl ⊢
  replace hl : lv_has ls 1 [(0, .ref MO)] := hl
  refine lv_aload_n hx hb dX12_misplaced_0 rfl (lv_at hl 0 rfl) ?_
  refine lv_aload_n hx hb dX12_misplaced_1 rfl (lv_at hl 0 rfl) ?_
  refine va_get (D := D) (ci := 12) (v := .int MO_token) (C := RX12) (T := TX12) (N := 71) hx hb hts iw_X12_misplaced_X12 hown hK hP 0 rfl rfl 8 (by decide) (hts (.fieldLink RX12 223 "SoldHouseModel" "token" "I") (List.mem_of_getElem? (i := 1) rfl)) (fun _ h9 => h9) rfl dX12_misplaced_2 ?_
  refine lv_iconst (v := 1) hx hb dX12_misplaced_5 (by decide) ?_
  refine lv_icmp_ne (tgt := 13) hx hb dX12_misplaced_6 (by decide) (fun c6 => ?_) (fun c6 => ?_)
  · refine lv_iconst (v := 2) hx hb dX12_misplaced_13 (by decide) ?_
    refine lv_aload_n hx hb dX12_misplaced_14 rfl (lv_at hl 0 rfl) ?_
    refine va_get (D := D) (ci := 12) (v := .int MO_at) (C := RX12) (T := TX12) (N := 71) hx hb hts iw_X12_misplaced_X12 hown hK hP 0 rfl rfl 6 (by decide) (hts (.fieldLink RX12 216 "SoldHouseModel" "at" "I") (List.mem_of_getElem? (i := 2) rfl)) (fun _ h9 => h9) rfl dX12_misplaced_15 ?_
    have hPc := hP.sub (ws' := [(MO, .inr (12, oX12 aMO MO_taped MO_size MO_faultKind MO_faultPlace MO_at MO_end MO_token MO_number MO_name MO_bank MO_rb MO_codes MO_within MO_piled MO_unitsInRule MO_askThing MO_acts MO_undone MO_laid MO_heards MO_time))]) [0] rfl
    have hDc := hD.sub (ws' := [(MO, .inr (12, oX12 aMO MO_taped MO_size MO_faultKind MO_faultPlace MO_at MO_end MO_token MO_number MO_name MO_bank MO_rb MO_codes MO_within MO_piled MO_unitsInRule MO_askThing MO_acts MO_undone MO_laid MO_heards MO_time))]) [0] (by decide) rfl
    have hFc := va_free (wc := [(MO, .inr (12, oX12 aMO MO_taped MO_size MO_faultKind MO_faultPlace MO_at MO_end MO_token MO_number MO_name MO_bank MO_rb MO_codes MO_within MO_piled MO_unitsInRule MO_askThing MO_acts MO_undone MO_laid MO_heards MO_time))]) hD hS hA [0] rfl
    refine va_callv (va_runV (As := [.int 2, .int MO_at]) (rest := []) ⟨hx, hb, hml, hown, hts⟩ (c_X12_fails l D cI cB cL cZ cG MO 2 MO_at aMO MO_taped MO_size MO_faultKind MO_faultPlace MO_at MO_end MO_token MO_number MO_name MO_bank MO_rb MO_codes MO_within MO_piled MO_unitsInRule MO_askThing MO_acts MO_undone MO_laid MO_heards MO_time H.size (zB_w (show zB 2 2 2 from ⟨by decide, by decide⟩) (by decide) (by decide)) b_MO_taped b_MO_size b_MO_faultKind b_MO_at b_MO_end b_MO_token b_MO_bank b_MO_rb b_MO_codes b_MO_within b_MO_piled b_MO_unitsInRule b_MO_askThing b_MO_acts b_MO_undone b_MO_laid b_MO_heards b_MO_time) (cwV 2 hts gX12_misplaced_X12_fails rfl rfl rfl (by decide +kernel) ⟨Nat.le_of_ble_eq_true rfl, Nat.le_of_ble_eq_true rfl⟩) ⟨xp_blind, va_recv hK hP (ci := 12) (q0 := 0) rfl rfl, fun U hU hW => xp_mk hU hW hPc hK hDc xNw_nil⟩ rfl rfl hl.1 rfl (lv_room (Nat.le_of_ble_eq_true rfl)) dX12_misplaced_18 ⟨Nat.le_of_ble_eq_true rfl, Nat.le_of_ble_eq_true rfl⟩) hS (fun q _ h => hFc q h) hFc (fun u9 t9 H1 locs ht9 hvm9 hr18 hB9 hz9 hk9 hS => ?_)
    obtain ⟨o18_nMO_faultKind, o18_nMO_faultPlace, bo18_nMO_faultKind, hP1, hD1⟩ := hB9
    rw [ht9] at hP1
    obtain ⟨hP, hD⟩ := va_join (wr := []) (w1 := [(MO, .inr (12, oX12 aMO MO_taped MO_size o18_nMO_faultKind o18_nMO_faultPlace MO_at MO_end MO_token MO_number MO_name MO_bank MO_rb MO_codes MO_within MO_piled MO_unitsInRule MO_askThing MO_acts MO_undone MO_laid MO_heards MO_time))]) hP hD [0] [] rfl rfl (by decide) (by decide) hk9 hFc hP1 hD1
    clear hz9 hPc hDc hP1 hD1 hk9 hFc ht9 hvm9 u9 t9
    generalize H1 = H at hP hS ⊢
    replace hP : va_P D classes [(MO, .inr (12, oX12 aMO MO_taped MO_size o18_nMO_faultKind o18_nMO_faultPlace MO_at MO_end MO_token MO_number MO_name MO_bank MO_rb MO_codes MO_within MO_piled MO_unitsInRule MO_askThing MO_acts MO_undone MO_laid MO_heards MO_time))] H := hP
    replace hD : va_D A [(MO, .inr (12, oX12 aMO MO_taped MO_size o18_nMO_faultKind o18_nMO_faultPlace MO_at MO_end MO_token MO_number MO_name MO_bank MO_rb MO_codes MO_within MO_piled MO_unitsInRule MO_askThing MO_acts MO_undone MO_laid MO_heards MO_time))] := hD
    exact W.vret hx hb hr (fun t ht hW => ⟨⟨(), rfl, trivial, ⟨o18_nMO_faultKind, o18_nMO_faultPlace, bo18_nMO_faultKind, by rw [ht]; exact hP, hD⟩⟩, hS.F ht⟩) hS.2.2 dX12_misplaced_21
  · have be6f_MO_token : zB MO_token 1 1 := zB_eq c6 b_MO_token (show zB 1 1 1 from ⟨by decide, by decide⟩) (by decide) (by decide)
    refine lv_iconst (v := 1) hx hb dX12_misplaced_9 (by decide) ?_
    refine lv_goto (tgt := 14) hx hb dX12_misplaced_10 (by decide) ?_
    refine lv_aload_n hx hb dX12_misplaced_14 rfl (lv_at hl 0 rfl) ?_
    refine va_get (D := D) (ci := 12) (v := .int MO_at) (C := RX12) (T := TX12) (N := 71) hx hb hts iw_X12_misplaced_X12 hown hK hP 0 rfl rfl 6 (by decide) (hts (.fieldLink RX12 216 "SoldHouseModel" "at" "I") (List.mem_of_getElem? (i := 2) rfl)) (fun _ h9 => h9) rfl dX12_misplaced_15 ?_
    have hPc := hP.sub (ws' := [(MO, .inr (12, oX12 aMO MO_taped MO_size MO_faultKind MO_faultPlace MO_at MO_end MO_token MO_number MO_name MO_bank MO_rb MO_codes MO_within MO_piled MO_unitsInRule MO_askThing MO_acts MO_undone MO_laid MO_heards MO_time))]) [0] rfl
    have hDc := hD.sub (ws' := [(MO, .inr (12, oX12 aMO MO_taped MO_size MO_faultKind MO_faultPlace MO_at MO_end MO_token MO_number MO_name MO_bank MO_rb MO_codes MO_within MO_piled MO_unitsInRule MO_askThing MO_acts MO_undone MO_laid MO_heards MO_time))]) [0] (by decide) rfl
    have hFc := va_free (wc := [(MO, .inr (12, oX12 aMO MO_taped MO_size MO_faultKind MO_faultPlace MO_at MO_end MO_token MO_number MO_name MO_bank MO_rb MO_codes MO_within MO_piled MO_unitsInRule MO_askThing MO_acts MO_undone MO_laid MO_heards MO_time))]) hD hS hA [0] rfl
    refine va_callv (va_runV (As := [.int 1, .int MO_at]) (rest := []) ⟨hx, hb, hml, hown, hts⟩ (c_X12_fails l D cI cB cL cZ cG MO 1 MO_at aMO MO_taped MO_size MO_faultKind MO_faultPlace MO_at MO_end MO_token MO_number MO_name MO_bank MO_rb MO_codes MO_within MO_piled MO_unitsInRule MO_askThing MO_acts MO_undone MO_laid MO_heards MO_time H.size (zB_w (show zB 1 1 1 from ⟨by decide, by decide⟩) (by decide) (by decide)) b_MO_taped b_MO_size b_MO_faultKind b_MO_at b_MO_end (zB_w be6f_MO_token (by decide) (by decide)) b_MO_bank b_MO_rb b_MO_codes b_MO_within b_MO_piled b_MO_unitsInRule b_MO_askThing b_MO_acts b_MO_undone b_MO_laid b_MO_heards b_MO_time) (cwV 2 hts gX12_misplaced_X12_fails rfl rfl rfl (by decide +kernel) ⟨Nat.le_of_ble_eq_true rfl, Nat.le_of_ble_eq_true rfl⟩) ⟨xp_blind, va_recv hK hP (ci := 12) (q0 := 0) rfl rfl, fun U hU hW => xp_mk hU hW hPc hK hDc xNw_nil⟩ rfl rfl hl.1 rfl (lv_room (Nat.le_of_ble_eq_true rfl)) dX12_misplaced_18 ⟨Nat.le_of_ble_eq_true rfl, Nat.le_of_ble_eq_true rfl⟩) hS (fun q _ h => hFc q h) hFc (fun u9 t9 H1 locs ht9 hvm9 hr18 hB9 hz9 hk9 hS => ?_)
    obtain ⟨o18_nMO_faultKind, o18_nMO_faultPlace, bo18_nMO_faultKind, hP1, hD1⟩ := hB9
    rw [ht9] at hP1
    obtain ⟨hP, hD⟩ := va_join (wr := []) (w1 := [(MO, .inr (12, oX12 aMO MO_taped MO_size o18_nMO_faultKind o18_nMO_faultPlace MO_at MO_end MO_token MO_number MO_name MO_bank MO_rb MO_codes MO_within MO_piled MO_unitsInRule MO_askThing MO_acts MO_undone MO_laid MO_heards MO_time))]) hP hD [0] [] rfl rfl (by decide) (by decide) hk9 hFc hP1 hD1
    clear hz9 hPc hDc hP1 hD1 hk9 hFc ht9 hvm9 u9 t9
    generalize H1 = H at hP hS ⊢
    replace hP : va_P D classes [(MO, .inr (12, oX12 aMO MO_taped MO_size o18_nMO_faultKind o18_nMO_faultPlace MO_at MO_end MO_token MO_number MO_name MO_bank MO_rb MO_codes MO_within MO_piled MO_unitsInRule MO_askThing MO_acts MO_undone MO_laid MO_heards MO_time))] H := hP
    replace hD : va_D A [(MO, .inr (12, oX12 aMO MO_taped MO_size o18_nMO_faultKind o18_nMO_faultPlace MO_at MO_end MO_token MO_number MO_name MO_bank MO_rb MO_codes MO_within MO_piled MO_unitsInRule MO_askThing MO_acts MO_undone MO_laid MO_heards MO_time))] := hD
    exact W.vret hx hb hr (fun t ht hW => ⟨⟨(), rfl, trivial, ⟨o18_nMO_faultKind, o18_nMO_faultPlace, bo18_nMO_faultKind, by rw [ht]; exact hP, hD⟩⟩, hS.F ht⟩) hS.2.2 dX12_misplaced_21
set_option maxHeartbeats 4000000 in
set_option maxRecDepth 100000 in
theorem c_X12_goOn (l : Launch) (D : va_G) (cI : ClassId) (cB : ClassId) (cL : ClassId) (cZ : ClassId) (cG : ClassId) (MO : Nat) (aMO : Nat → Nat) (MO_taped : Int32) (MO_size : Int32) (MO_faultKind : Int32) (MO_faultPlace : Int32) (MO_at : Int32) (MO_end : Int32) (MO_token : Int32) (MO_number : Int32) (MO_name : Int64) (MO_bank : Int32) (MO_rb : Int32) (MO_codes : Int32) (MO_within : Int32) (MO_piled : Int32) (MO_unitsInRule : Int32) (MO_askThing : Int32) (MO_acts : Int32) (MO_undone : Int32) (MO_laid : Int32) (MO_heards : Int32) (MO_time : Int32) (MO_text : Nat → Int32) (sz : Nat) (b_MO_taped : zB MO_taped 0 1600) (b_MO_size : zB MO_size 0 1600) (b_MO_faultKind : zB MO_faultKind 0 5) (b_MO_at : zB MO_at 0 1600) (b_MO_end : zB MO_end 0 1600) (b_MO_token : zB MO_token 0 5) (b_MO_bank : zB MO_bank 0 1) (b_MO_rb : zB MO_rb 0 1) (b_MO_codes : zB MO_codes 0 1120) (b_MO_within : zB MO_within 0 7) (b_MO_piled : zB MO_piled 0 89) (b_MO_unitsInRule : zB MO_unitsInRule 0 30) (b_MO_askThing : zB MO_askThing 0 5) (b_MO_acts : zB MO_acts 0 40) (b_MO_undone : zB MO_undone 0 40) (b_MO_laid : zB MO_laid 0 8) (b_MO_heards : zB MO_heards 0 30) (b_MO_time : zB MO_time 0 100000) : Met l yX12_goOn wsX12_goOn ({ frames := 1, cells := 0, slots := 0, locals := 22 }) (xp D [(cI, .int), (cB, .byte), (cL, .long), (cZ, .boolean), (cG, .array .int)] [(MO, .inr (12, oX12 aMO MO_taped MO_size MO_faultKind MO_faultPlace MO_at MO_end MO_token MO_number MO_name MO_bank MO_rb MO_codes MO_within MO_piled MO_unitsInRule MO_askThing MO_acts MO_undone MO_laid MO_heards MO_time)), ((aMO 1), .inl (cB, 1600, .inl MO_text))] sz [] [.ref MO]) (va_Qv (fun _ : Unit => True) (fun (_ : Unit) (t : State) => ∃ (nMO_at : Int32), ∃ (nMO_end : Int32), ∃ (nMO_token : Int32), ∃ (nMO_number : Int32), ∃ (nMO_name : Int64), zB nMO_at 0 1600 ∧ zB nMO_end 0 1600 ∧ zB nMO_token 0 5 ∧ (MO_token.toInt ≠ 0 → zM nMO_end nMO_token + 1 ≤ zM MO_end MO_token) ∧ xB D (va_A [(MO, .inr (12, oX12 aMO MO_taped MO_size MO_faultKind MO_faultPlace MO_at MO_end MO_token MO_number MO_name MO_bank MO_rb MO_codes MO_within MO_piled MO_unitsInRule MO_askThing MO_acts MO_undone MO_laid MO_heards MO_time)), ((aMO 1), .inl (cB, 1600, .inl MO_text))] sz) [(MO, .inr (12, oX12 aMO MO_taped MO_size MO_faultKind MO_faultPlace nMO_at nMO_end nMO_token nMO_number nMO_name MO_bank MO_rb MO_codes MO_within MO_piled MO_unitsInRule MO_askThing MO_acts MO_undone MO_laid MO_heards MO_time)), ((aMO 1), .inl (cB, 1600, .inl MO_text))] t) (va_A [(MO, .inr (12, oX12 aMO MO_taped MO_size MO_faultKind MO_faultPlace MO_at MO_end MO_token MO_number MO_name MO_bank MO_rb MO_codes MO_within MO_piled MO_unitsInRule MO_askThing MO_acts MO_undone MO_laid MO_heards MO_time)), ((aMO 1), .inl (cB, 1600, .inl MO_text))] sz)) 0 0 (va_A [(MO, .inr (12, oX12 aMO MO_taped MO_size MO_faultKind MO_faultPlace MO_at MO_end MO_token MO_number MO_name MO_bank MO_rb MO_codes MO_within MO_piled MO_unitsInRule MO_askThing MO_acts MO_undone MO_laid MO_heards MO_time)), ((aMO 1), .inl (cB, 1600, .inl MO_text))] sz) := by
  refine Met.ofW (cc := cX12_goOn) (maxL := 3) (ret := none) (by decide) rfl ?_
  intro p e s m args below meth c s₁ B hml hv
  obtain ⟨rfl, hsz, hP, hK, hD0, hNw⟩ := hv
  have hx := B.exec
  have hb := B.bytes
  have hr := B.returns
  have hts := atoms_spec (ws := wsX12_goOn) B.pre
  have hown : s.vm.findClass RX12 = some m.cls := findClass_of_methodNamed B.named
  have hlocks := B.notSynchronized
  clear B
  subst hsz
  have hD := hD0.self (sz := s.heap.size)
  clear hD0 hNw
  generalize hAe : va_A [(MO, .inr (12, oX12 aMO MO_taped MO_size MO_faultKind MO_faultPlace MO_at MO_end MO_token MO_number MO_name MO_bank MO_rb MO_codes MO_within MO_piled MO_unitsInRule MO_askThing MO_acts MO_undone MO_laid MO_heards MO_time)), ((aMO 1), .inl (cB, 1600, .inl MO_text))] s.heap.size = A at hD ⊢
  have hA : ∀ q : Nat, s.heap.size ≤ q → A q := fun q h => by rw [← hAe]; exact Or.inr h
  have hS : va_S A s.heap s.heap [] := va_S.rf
  clear hAe
  obtain ⟨H, hH⟩ : ∃ H : Heap, H = s.heap := ⟨_, rfl⟩
  obtain ⟨locs, hlocs⟩ : ∃ L : List Loc, L = [] := ⟨_, rfl⟩
  replace hP : va_P D classes [(MO, .inr (12, oX12 aMO MO_taped MO_size MO_faultKind MO_faultPlace MO_at MO_end MO_token MO_number MO_name MO_bank MO_rb MO_codes MO_within MO_piled MO_unitsInRule MO_askThing MO_acts MO_undone MO_laid MO_heards MO_time)), ((aMO 1), .inl (cB, 1600, .inl MO_text))] H := by rw [hH]; exact hP
  replace hS : va_S A s.heap H locs := by rw [hH, hlocs]; exact hS
  rw [← hH, ← hlocs]
  clear hlocs hH
  have hl := lv_entry ([.ref MO]) (n := 3) (Nat.le_of_ble_eq_true rfl)
  rw [lg_entry_eq]
  generalize (lg_sl ([.ref MO]) ++ List.replicate (3 - (lg_sl ([.ref MO])).length) Slot.unset).toArray = ls at hl ⊢
  replace hl : lv_has ls 3 [(0, .ref MO)] := hl
  refine zz_abs (R := ({ frames := 1, cells := 0, slots := 0, locals := 22 } : Room)) (fun Q up => ?_)
  refine lv_aload_n hx hb dX12_goOn_0 rfl (lv_at hl 0 rfl) ?_
  refine lv_aload_n hx hb dX12_goOn_1 rfl (lv_at hl 0 rfl) ?_
  refine va_get (D := D) (ci := 12) (v := .int MO_end) (C := RX12) (T := TX12) (N := 71) hx hb hts iw_X12_goOn_X12 hown hK hP 0 rfl rfl 7 (by decide) (hts (.fieldLink RX12 213 "SoldHouseModel" "end" "I") (List.mem_of_getElem? (i := 1) rfl)) (fun _ h9 => h9) rfl dX12_goOn_2 ?_
  have j8 : ∀ (n8 : Nat) (H : Heap) (locs : List Loc) (ls : Array Slot) (w8_MO_6 : Int32), zB w8_MO_6 0 1600 → (MO_end.toInt ≤ w8_MO_6.toInt) → (1600 + 1 - w8_MO_6.toInt) ≤ (n8 : Int) → va_P D classes [(MO, .inr (12, oX12 aMO MO_taped MO_size MO_faultKind MO_faultPlace w8_MO_6 MO_end MO_token MO_number MO_name MO_bank MO_rb MO_codes MO_within MO_piled MO_unitsInRule MO_askThing MO_acts MO_undone MO_laid MO_heards MO_time)), ((aMO 1), .inl (cB, 1600, .inl MO_text))] H → va_D A [(MO, .inr (12, oX12 aMO MO_taped MO_size MO_faultKind MO_faultPlace w8_MO_6 MO_end MO_token MO_number MO_name MO_bank MO_rb MO_codes MO_within MO_piled MO_unitsInRule MO_askThing MO_acts MO_undone MO_laid MO_heards MO_time)), ((aMO 1), .inl (cB, 1600, .inl MO_text))] → va_S A s.heap H locs → lv_has ls 3 [(0, .ref MO)] → W p l e ({ frames := 1, cells := 0, slots := 0, locals := 22 } : Room) s m ([.ref MO] : List Value).toArray below meth c H locs 0 0 Q (F0 m 8 ls []) := by
    intro n8
    induction n8 with
    | zero => intro H locs ls w8_MO_6 bw8_MO_6_k8 k8_a hm8 hP hD hS hl; exact zM_u0 bw8_MO_6_k8 hm8
    | succ n8 ih8 =>
      intro H locs ls w8_MO_6 bw8_MO_6_k8 k8_a hm8 hP hD hS hl
      refine lv_aload_n hx hb dX12_goOn_8 rfl (lv_at hl 0 rfl) ?_
      refine va_get (D := D) (ci := 12) (v := .int w8_MO_6) (C := RX12) (T := TX12) (N := 71) hx hb hts iw_X12_goOn_X12 hown hK hP 0 rfl rfl 6 (by decide) (hts (.fieldLink RX12 216 "SoldHouseModel" "at" "I") (List.mem_of_getElem? (i := 2) rfl)) (fun _ h9 => h9) rfl dX12_goOn_9 ?_
      refine lv_aload_n hx hb dX12_goOn_12 rfl (lv_at hl 0 rfl) ?_
      refine va_get (D := D) (ci := 12) (v := .int MO_size) (C := RX12) (T := TX12) (N := 71) hx hb hts iw_X12_goOn_X12 hown hK hP 0 rfl rfl 3 (by decide) (hts (.fieldLink RX12 173 "SoldHouseModel" "size" "I") (List.mem_of_getElem? (i := 3) rfl)) (fun _ h9 => h9) rfl dX12_goOn_13 ?_
      have j58 : ∀ (H : Heap) (locs : List Loc) (ls : Array Slot), (MO_end.toInt ≤ w8_MO_6.toInt) → va_P D classes [(MO, .inr (12, oX12 aMO MO_taped MO_size MO_faultKind MO_faultPlace w8_MO_6 MO_end MO_token MO_number MO_name MO_bank MO_rb MO_codes MO_within MO_piled MO_unitsInRule MO_askThing MO_acts MO_undone MO_laid MO_heards MO_time)), ((aMO 1), .inl (cB, 1600, .inl MO_text))] H → va_D A [(MO, .inr (12, oX12 aMO MO_taped MO_size MO_faultKind MO_faultPlace w8_MO_6 MO_end MO_token MO_number MO_name MO_bank MO_rb MO_codes MO_within MO_piled MO_unitsInRule MO_askThing MO_acts MO_undone MO_laid MO_heards MO_time)), ((aMO 1), .inl (cB, 1600, .inl MO_text))] → va_S A s.heap H locs → lv_has ls 3 [(0, .ref MO)] → W p l e ({ frames := 1, cells := 0, slots := 0, locals := 22 } : Room) s m ([.ref MO] : List Value).toArray below meth c H locs 0 0 Q (F0 m 58 ls []) := by
        intro H locs ls k58_a hP hD hS hl
        refine lv_aload_n hx hb dX12_goOn_58 rfl (lv_at hl 0 rfl) ?_
        refine lv_aload_n hx hb dX12_goOn_59 rfl (lv_at hl 0 rfl) ?_
        refine va_get (D := D) (ci := 12) (v := .int w8_MO_6) (C := RX12) (T := TX12) (N := 71) hx hb hts iw_X12_goOn_X12 hown hK hP 0 rfl rfl 6 (by decide) (hts (.fieldLink RX12 216 "SoldHouseModel" "at" "I") (List.mem_of_getElem? (i := 2) rfl)) (fun _ h9 => h9) rfl dX12_goOn_60 ?_
        have hPc := hP.sub (ws' := [(MO, .inr (12, oX12 aMO MO_taped MO_size MO_faultKind MO_faultPlace w8_MO_6 MO_end MO_token MO_number MO_name MO_bank MO_rb MO_codes MO_within MO_piled MO_unitsInRule MO_askThing MO_acts MO_undone MO_laid MO_heards MO_time)), ((aMO 1), .inl (cB, 1600, .inl MO_text))]) [0, 1] rfl
        refine vp_callSi (va_runV (As := [.int w8_MO_6]) (rest := []) ⟨hx, hb, hml, hown, hts⟩ (c_X12_sign l D cI cB cL cZ cG MO w8_MO_6 aMO MO_taped MO_size MO_faultKind MO_faultPlace w8_MO_6 MO_end MO_token MO_number MO_name MO_bank MO_rb MO_codes MO_within MO_piled MO_unitsInRule MO_askThing MO_acts MO_undone MO_laid MO_heards MO_time MO_text bw8_MO_6_k8 b_MO_taped b_MO_size b_MO_faultKind bw8_MO_6_k8 b_MO_end b_MO_token b_MO_bank b_MO_rb b_MO_codes b_MO_within b_MO_piled b_MO_unitsInRule b_MO_askThing b_MO_acts b_MO_undone b_MO_laid b_MO_heards b_MO_time) (cwV 1 hts gX12_goOn_X12_sign rfl rfl rfl (by decide +kernel) ⟨Nat.le_of_ble_eq_true rfl, Nat.le_of_ble_eq_true rfl⟩) ⟨xr_blind, va_recv hK hP (ci := 12) (q0 := 0) rfl rfl, fun U hU hW => xr_mk hU hW hPc hK⟩ rfl rfl hl.1 rfl (lv_room (Nat.le_of_ble_eq_true rfl)) dX12_goOn_63 ⟨Nat.le_of_ble_eq_true rfl, Nat.le_of_ble_eq_true rfl⟩).run (fun r63 hr63 => ?_)
        obtain ⟨hr63, p63_lt, p63_fn⟩ := hr63
        clear hPc
        refine lv_istore_n (lv' := [(1, .int r63), (0, .ref MO)]) hx hb dX12_goOn_66 rfl hl (by decide) rfl (fun ls hl => ?_)
        refine lv_aload_n hx hb dX12_goOn_67 rfl (lv_at hl 1 rfl) ?_
        refine lv_aload_n hx hb dX12_goOn_68 rfl (lv_at hl 1 rfl) ?_
        refine va_get (D := D) (ci := 12) (v := .int w8_MO_6) (C := RX12) (T := TX12) (N := 71) hx hb hts iw_X12_goOn_X12 hown hK hP 0 rfl rfl 6 (by decide) (hts (.fieldLink RX12 216 "SoldHouseModel" "at" "I") (List.mem_of_getElem? (i := 2) rfl)) (fun _ h9 => h9) rfl dX12_goOn_69 ?_
        refine lv_iconst (v := 1) hx hb dX12_goOn_72 (by decide) ?_
        refine lv_iadd hx hb dX12_goOn_73 ?_
        refine zi_top2 (P := fun y => y.toInt = w8_MO_6.toInt + 1) (a := 1) (b := 1601) (zB_add bw8_MO_6_k8 (show zB 1 1 1 from ⟨by decide, by decide⟩) (by decide) (by decide) (by decide) (by decide)) (zR_addc bw8_MO_6_k8 (by decide) (by decide) (by decide)) (fun y73 by73 ry73 => ?_)
        refine va_put (D := D) (ci := 12) (v := .int y73) (ty := tyX12 7) (C := RX12) (T := TX12) (N := 71) hx hb hts iw_X12_goOn_X12 tyX12 tyX12_ok nmX12 hown hK hP hD hS 0 rfl rfl 7 (by decide) (hts (.fieldLink RX12 213 "SoldHouseModel" "end" "I") (List.mem_of_getElem? (i := 1) rfl)) (fun _ h9 => h9) rfl (by decide +kernel) rfl rfl (Nat.le_of_ble_eq_true rfl) dX12_goOn_74 (fun H locs hP hD hS => ?_)
        replace hP : va_P D classes [(MO, .inr (12, oX12 aMO MO_taped MO_size MO_faultKind MO_faultPlace w8_MO_6 y73 MO_token MO_number MO_name MO_bank MO_rb MO_codes MO_within MO_piled MO_unitsInRule MO_askThing MO_acts MO_undone MO_laid MO_heards MO_time)), ((aMO 1), .inl (cB, 1600, .inl MO_text))] H := hP
        replace hD : va_D A [(MO, .inr (12, oX12 aMO MO_taped MO_size MO_faultKind MO_faultPlace w8_MO_6 y73 MO_token MO_number MO_name MO_bank MO_rb MO_codes MO_within MO_piled MO_unitsInRule MO_askThing MO_acts MO_undone MO_laid MO_heards MO_time)), ((aMO 1), .inl (cB, 1600, .inl MO_text))] := hD
        refine lv_aload_n hx hb dX12_goOn_77 rfl (lv_at hl 1 rfl) ?_
        refine va_get (D := D) (ci := 12) (v := .int w8_MO_6) (C := RX12) (T := TX12) (N := 71) hx hb hts iw_X12_goOn_X12 hown hK hP 0 rfl rfl 6 (by decide) (hts (.fieldLink RX12 216 "SoldHouseModel" "at" "I") (List.mem_of_getElem? (i := 2) rfl)) (fun _ h9 => h9) rfl dX12_goOn_78 ?_
        refine lv_aload_n hx hb dX12_goOn_81 rfl (lv_at hl 1 rfl) ?_
        refine va_get (D := D) (ci := 12) (v := .int MO_size) (C := RX12) (T := TX12) (N := 71) hx hb hts iw_X12_goOn_X12 hown hK hP 0 rfl rfl 3 (by decide) (hts (.fieldLink RX12 173 "SoldHouseModel" "size" "I") (List.mem_of_getElem? (i := 3) rfl)) (fun _ h9 => h9) rfl dX12_goOn_82 ?_
        refine lv_icmp_lt (tgt := 112) hx hb dX12_goOn_85 (by decide) (fun c85 => ?_) (fun c85 => ?_)
        · have bx85t_w8_MO_6 : zB w8_MO_6 0 1599 := zB_ltu (zl c85) bw8_MO_6_k8 b_MO_size (by decide)
          have bfx85t_y73 : zB y73 1 1600 := zB_meet (zB_fw (a := 1) (b := 1600) bx85t_w8_MO_6 ry73 (by decide) (by decide)) by73 (by decide) (by decide)
          have by85t_MO_size : zB MO_size 1 1600 := zB_ltv (zl c85) bx85t_w8_MO_6 b_MO_size (by decide)
          refine lv_iload_n hx hb dX12_goOn_112 rfl (lv_at hl 0 rfl) ?_
          have hPc := hP.sub (ws' := []) [] rfl
          refine vp_callSi (va_runS (As := [.int r63]) (rest := []) ⟨hx, hb, hml, hown, hts⟩ (c_X12_isLetter l D cI cB cL cZ cG r63) (va_cwS 1 hts gX12_goOn_X12_isLetter rfl rfl rfl (by decide +kernel) ⟨Nat.le_of_ble_eq_true rfl, Nat.le_of_ble_eq_true rfl⟩) ⟨xr_blind, fun U hU hW => xr_mk hU hW hPc hK⟩ rfl rfl hl.1 rfl (lv_room (Nat.le_of_ble_eq_true rfl)) dX12_goOn_113 ⟨Nat.le_of_ble_eq_true rfl, Nat.le_of_ble_eq_true rfl⟩).run (fun r113 hr113 => ?_)
          obtain ⟨hr113, p113_no⟩ := hr113
          clear hPc
          rcases hr113 with rfl | ⟨rfl, hr113_1_0⟩
          · have j119 : ∀ (n119 : Nat) (H : Heap) (locs : List Loc) (ls : Array Slot) (w119_MO_7 : Int32), zB r63 97 122 → zB w119_MO_7 1 1600 → (MO_end.toInt + 1 ≤ w119_MO_7.toInt) → (1600 + 1 - w119_MO_7.toInt) ≤ (n119 : Int) → va_P D classes [(MO, .inr (12, oX12 aMO MO_taped MO_size MO_faultKind MO_faultPlace w8_MO_6 w119_MO_7 MO_token MO_number MO_name MO_bank MO_rb MO_codes MO_within MO_piled MO_unitsInRule MO_askThing MO_acts MO_undone MO_laid MO_heards MO_time)), ((aMO 1), .inl (cB, 1600, .inl MO_text))] H → va_D A [(MO, .inr (12, oX12 aMO MO_taped MO_size MO_faultKind MO_faultPlace w8_MO_6 w119_MO_7 MO_token MO_number MO_name MO_bank MO_rb MO_codes MO_within MO_piled MO_unitsInRule MO_askThing MO_acts MO_undone MO_laid MO_heards MO_time)), ((aMO 1), .inl (cB, 1600, .inl MO_text))] → va_S A s.heap H locs → lv_has ls 3 [(1, .int r63), (0, .ref MO)] → W p l e ({ frames := 1, cells := 0, slots := 0, locals := 22 } : Room) s m ([.ref MO] : List Value).toArray below meth c H locs 0 0 Q (F0 m 119 ls []) := by
              intro n119
              induction n119 with
              | zero => intro H locs ls w119_MO_7 br63_k119 bw119_MO_7_k119 k119_a hm119 hP hD hS hl; exact zM_u0 bw119_MO_7_k119 hm119
              | succ n119 ih119 =>
                intro H locs ls w119_MO_7 br63_k119 bw119_MO_7_k119 k119_a hm119 hP hD hS hl
                refine lv_aload_n hx hb dX12_goOn_119 rfl (lv_at hl 1 rfl) ?_
                refine lv_aload_n hx hb dX12_goOn_120 rfl (lv_at hl 1 rfl) ?_
                refine va_get (D := D) (ci := 12) (v := .int w119_MO_7) (C := RX12) (T := TX12) (N := 71) hx hb hts iw_X12_goOn_X12 hown hK hP 0 rfl rfl 7 (by decide) (hts (.fieldLink RX12 213 "SoldHouseModel" "end" "I") (List.mem_of_getElem? (i := 1) rfl)) (fun _ h9 => h9) rfl dX12_goOn_121 ?_
                have hPc := hP.sub (ws' := [(MO, .inr (12, oX12 aMO MO_taped MO_size MO_faultKind MO_faultPlace w8_MO_6 w119_MO_7 MO_token MO_number MO_name MO_bank MO_rb MO_codes MO_within MO_piled MO_unitsInRule MO_askThing MO_acts MO_undone MO_laid MO_heards MO_time)), ((aMO 1), .inl (cB, 1600, .inl MO_text))]) [0, 1] rfl
                refine vp_callSi (va_runV (As := [.int w119_MO_7]) (rest := []) ⟨hx, hb, hml, hown, hts⟩ (c_X12_sign l D cI cB cL cZ cG MO w119_MO_7 aMO MO_taped MO_size MO_faultKind MO_faultPlace w8_MO_6 w119_MO_7 MO_token MO_number MO_name MO_bank MO_rb MO_codes MO_within MO_piled MO_unitsInRule MO_askThing MO_acts MO_undone MO_laid MO_heards MO_time MO_text (zB_w bw119_MO_7_k119 (by decide) (by decide)) b_MO_taped (zB_w by85t_MO_size (by decide) (by decide)) b_MO_faultKind (zB_w bx85t_w8_MO_6 (by decide) (by decide)) (zB_w bw119_MO_7_k119 (by decide) (by decide)) b_MO_token b_MO_bank b_MO_rb b_MO_codes b_MO_within b_MO_piled b_MO_unitsInRule b_MO_askThing b_MO_acts b_MO_undone b_MO_laid b_MO_heards b_MO_time) (cwV 1 hts gX12_goOn_X12_sign rfl rfl rfl (by decide +kernel) ⟨Nat.le_of_ble_eq_true rfl, Nat.le_of_ble_eq_true rfl⟩) ⟨xr_blind, va_recv hK hP (ci := 12) (q0 := 0) rfl rfl, fun U hU hW => xr_mk hU hW hPc hK⟩ rfl rfl hl.1 rfl (lv_room (Nat.le_of_ble_eq_true rfl)) dX12_goOn_124 ⟨Nat.le_of_ble_eq_true rfl, Nat.le_of_ble_eq_true rfl⟩).run (fun r124 hr124 => ?_)
                obtain ⟨hr124, p124_lt, p124_fn⟩ := hr124
                clear hPc
                have hPc := hP.sub (ws' := []) [] rfl
                refine vp_callSi (va_runS (As := [.int r124]) (rest := []) ⟨hx, hb, hml, hown, hts⟩ (c_X12_isLetter l D cI cB cL cZ cG r124) (va_cwS 1 hts gX12_goOn_X12_isLetter rfl rfl rfl (by decide +kernel) ⟨Nat.le_of_ble_eq_true rfl, Nat.le_of_ble_eq_true rfl⟩) ⟨xr_blind, fun U hU hW => xr_mk hU hW hPc hK⟩ rfl rfl hl.1 rfl (lv_room (Nat.le_of_ble_eq_true rfl)) dX12_goOn_127 ⟨Nat.le_of_ble_eq_true rfl, Nat.le_of_ble_eq_true rfl⟩).run (fun r127 hr127 => ?_)
                obtain ⟨hr127, p127_no⟩ := hr127
                clear hPc
                rcases hr127 with rfl | ⟨rfl, hr127_1_0⟩
                · refine lv_if_eq (tgt := 146) hx hb dX12_goOn_130 (by decide) (fun _ => ?_) (fun c130 => absurd (by decide) c130)
                  refine lv_aload_n hx hb dX12_goOn_146 rfl (lv_at hl 1 rfl) ?_
                  refine lv_lconst (v := 0) hx hb dX12_goOn_147 (by decide) ?_
                  refine va_put (D := D) (ci := 12) (v := .long 0) (ty := tyX12 10) (C := RX12) (T := TX12) (N := 71) hx hb hts iw_X12_goOn_X12 tyX12 tyX12_ok nmX12 hown hK hP hD hS 0 rfl rfl 10 (by decide) (hts (.fieldLink RX12 230 "SoldHouseModel" "name" "J") (List.mem_of_getElem? (i := 5) rfl)) (fun _ h9 => h9) rfl (by decide +kernel) rfl rfl (Nat.le_of_ble_eq_true rfl) dX12_goOn_148 (fun H locs hP hD hS => ?_)
                  replace hP : va_P D classes [(MO, .inr (12, oX12 aMO MO_taped MO_size MO_faultKind MO_faultPlace w8_MO_6 w119_MO_7 MO_token MO_number 0 MO_bank MO_rb MO_codes MO_within MO_piled MO_unitsInRule MO_askThing MO_acts MO_undone MO_laid MO_heards MO_time)), ((aMO 1), .inl (cB, 1600, .inl MO_text))] H := hP
                  replace hD : va_D A [(MO, .inr (12, oX12 aMO MO_taped MO_size MO_faultKind MO_faultPlace w8_MO_6 w119_MO_7 MO_token MO_number 0 MO_bank MO_rb MO_codes MO_within MO_piled MO_unitsInRule MO_askThing MO_acts MO_undone MO_laid MO_heards MO_time)), ((aMO 1), .inl (cB, 1600, .inl MO_text))] := hD
                  refine lv_aload_n hx hb dX12_goOn_151 rfl (lv_at hl 1 rfl) ?_
                  refine va_get (D := D) (ci := 12) (v := .int w8_MO_6) (C := RX12) (T := TX12) (N := 71) hx hb hts iw_X12_goOn_X12 hown hK hP 0 rfl rfl 6 (by decide) (hts (.fieldLink RX12 216 "SoldHouseModel" "at" "I") (List.mem_of_getElem? (i := 2) rfl)) (fun _ h9 => h9) rfl dX12_goOn_152 ?_
                  have j156 : ∀ (n156 : Nat) (H : Heap) (locs : List Loc) (ls : Array Slot) (v156_2 : Int32) (w156_MO_10 : Int64), zB v156_2 0 1600 → (MO_end.toInt + 1 ≤ w119_MO_7.toInt) → (1600 + 1 - v156_2.toInt) ≤ (n156 : Int) → va_P D classes [(MO, .inr (12, oX12 aMO MO_taped MO_size MO_faultKind MO_faultPlace w8_MO_6 w119_MO_7 MO_token MO_number w156_MO_10 MO_bank MO_rb MO_codes MO_within MO_piled MO_unitsInRule MO_askThing MO_acts MO_undone MO_laid MO_heards MO_time)), ((aMO 1), .inl (cB, 1600, .inl MO_text))] H → va_D A [(MO, .inr (12, oX12 aMO MO_taped MO_size MO_faultKind MO_faultPlace w8_MO_6 w119_MO_7 MO_token MO_number w156_MO_10 MO_bank MO_rb MO_codes MO_within MO_piled MO_unitsInRule MO_askThing MO_acts MO_undone MO_laid MO_heards MO_time)), ((aMO 1), .inl (cB, 1600, .inl MO_text))] → va_S A s.heap H locs → lv_has ls 3 [(2, .int v156_2), (1, .int r63), (0, .ref MO)] → W p l e ({ frames := 1, cells := 0, slots := 0, locals := 22 } : Room) s m ([.ref MO] : List Value).toArray below meth c H locs 0 0 Q (F0 m 156 ls []) := by
                    intro n156
                    induction n156 with
                    | zero => intro H locs ls v156_2 w156_MO_10 bv156_2_k156 k156_a hm156 hP hD hS hl; exact zM_u0 bv156_2_k156 hm156
                    | succ n156 ih156 =>
                      intro H locs ls v156_2 w156_MO_10 bv156_2_k156 k156_a hm156 hP hD hS hl
                      refine lv_iload_n hx hb dX12_goOn_156 rfl (lv_at hl 0 rfl) ?_
                      refine lv_aload_n hx hb dX12_goOn_157 rfl (lv_at hl 2 rfl) ?_
                      refine va_get (D := D) (ci := 12) (v := .int w119_MO_7) (C := RX12) (T := TX12) (N := 71) hx hb hts iw_X12_goOn_X12 hown hK hP 0 rfl rfl 7 (by decide) (hts (.fieldLink RX12 213 "SoldHouseModel" "end" "I") (List.mem_of_getElem? (i := 1) rfl)) (fun _ h9 => h9) rfl dX12_goOn_158 ?_
                      have j199 : ∀ (H : Heap) (locs : List Loc) (ls : Array Slot), zB v156_2 1 1600 → va_P D classes [(MO, .inr (12, oX12 aMO MO_taped MO_size MO_faultKind MO_faultPlace w8_MO_6 w119_MO_7 MO_token MO_number w156_MO_10 MO_bank MO_rb MO_codes MO_within MO_piled MO_unitsInRule MO_askThing MO_acts MO_undone MO_laid MO_heards MO_time)), ((aMO 1), .inl (cB, 1600, .inl MO_text))] H → va_D A [(MO, .inr (12, oX12 aMO MO_taped MO_size MO_faultKind MO_faultPlace w8_MO_6 w119_MO_7 MO_token MO_number w156_MO_10 MO_bank MO_rb MO_codes MO_within MO_piled MO_unitsInRule MO_askThing MO_acts MO_undone MO_laid MO_heards MO_time)), ((aMO 1), .inl (cB, 1600, .inl MO_text))] → va_S A s.heap H locs → lv_has ls 3 [(2, .int v156_2), (1, .int r63), (0, .ref MO)] → W p l e ({ frames := 1, cells := 0, slots := 0, locals := 22 } : Room) s m ([.ref MO] : List Value).toArray below meth c H locs 0 0 Q (F0 m 199 ls []) := by
                        intro H locs ls bv156_2_k199 hP hD hS hl
                        refine lv_aload_n hx hb dX12_goOn_199 rfl (lv_at hl 2 rfl) ?_
                        refine lv_aload_n hx hb dX12_goOn_200 rfl (lv_at hl 2 rfl) ?_
                        refine va_get (D := D) (ci := 12) (v := .int w119_MO_7) (C := RX12) (T := TX12) (N := 71) hx hb hts iw_X12_goOn_X12 hown hK hP 0 rfl rfl 7 (by decide) (hts (.fieldLink RX12 213 "SoldHouseModel" "end" "I") (List.mem_of_getElem? (i := 1) rfl)) (fun _ h9 => h9) rfl dX12_goOn_201 ?_
                        refine lv_aload_n hx hb dX12_goOn_204 rfl (lv_at hl 2 rfl) ?_
                        refine va_get (D := D) (ci := 12) (v := .int w8_MO_6) (C := RX12) (T := TX12) (N := 71) hx hb hts iw_X12_goOn_X12 hown hK hP 0 rfl rfl 6 (by decide) (hts (.fieldLink RX12 216 "SoldHouseModel" "at" "I") (List.mem_of_getElem? (i := 2) rfl)) (fun _ h9 => h9) rfl dX12_goOn_205 ?_
                        refine lv_isub hx hb dX12_goOn_208 ?_
                        refine zi_top3 (P := fun y => y.toInt = w119_MO_7.toInt - w8_MO_6.toInt) (a := (-1598)) (b := 1600) (zB_sub bw119_MO_7_k119 bx85t_w8_MO_6 (by decide) (by decide) (by decide) (by decide)) (zL_sub bw119_MO_7_k119 bx85t_w8_MO_6 (by decide) (by decide) rfl rfl) (fun y208 ey208 by208 ry208 => ?_)
                        clear ey208
                        refine lv_bipush (v := 8) hx hb dX12_goOn_209 (by decide) ?_
                        refine lv_icmp_le (tgt := 218) hx hb dX12_goOn_211 (by decide) (fun c211 => ?_) (fun c211 => ?_)
                        · have bx211t_y208 : zB y208 (-1598) 8 := zB_leu (ze c211) by208 (show zB 8 8 8 from ⟨by decide, by decide⟩) (by decide)
                          refine lv_aload_n hx hb dX12_goOn_218 rfl (lv_at hl 2 rfl) ?_
                          refine va_get (D := D) (ci := 12) (v := .long w156_MO_10) (C := RX12) (T := TX12) (N := 71) hx hb hts iw_X12_goOn_X12 hown hK hP 0 rfl rfl 10 (by decide) (hts (.fieldLink RX12 230 "SoldHouseModel" "name" "J") (List.mem_of_getElem? (i := 5) rfl)) (fun _ h9 => h9) rfl dX12_goOn_219 ?_
                          have hPc := hP.sub (ws' := []) [] rfl
                          refine vp_callSi (va_runS (As := [.long w156_MO_10]) (rest := [.ref MO]) ⟨hx, hb, hml, hown, hts⟩ (c_X12_isKept l D cI cB cL cZ cG w156_MO_10) (va_cwS 1 hts gX12_goOn_X12_isKept rfl rfl rfl (by decide +kernel) ⟨Nat.le_of_ble_eq_true rfl, Nat.le_of_ble_eq_true rfl⟩) ⟨xr_blind, fun U hU hW => xr_mk hU hW hPc hK⟩ rfl rfl hl.1 rfl (lv_room (Nat.le_of_ble_eq_true rfl)) dX12_goOn_222 ⟨Nat.le_of_ble_eq_true rfl, Nat.le_of_ble_eq_true rfl⟩).run (fun r222 hr222 => ?_)
                          clear hPc
                          refine lv_if_eq (tgt := 232) hx hb dX12_goOn_225 (by decide) (fun c225 => ?_) (fun c225 => ?_)
                          · have be225t_r222 : zB r222 0 0 := zB_eq c225 hr222 (show zB 0 0 0 from ⟨by decide, by decide⟩) (by decide) (by decide)
                            refine lv_iconst (v := 2) hx hb dX12_goOn_232 (by decide) ?_
                            refine va_put (D := D) (ci := 12) (v := .int 2) (ty := tyX12 8) (C := RX12) (T := TX12) (N := 71) hx hb hts iw_X12_goOn_X12 tyX12 tyX12_ok nmX12 hown hK hP hD hS 0 rfl rfl 8 (by decide) (hts (.fieldLink RX12 223 "SoldHouseModel" "token" "I") (List.mem_of_getElem? (i := 4) rfl)) (fun _ h9 => h9) rfl (by decide +kernel) rfl rfl (Nat.le_of_ble_eq_true rfl) dX12_goOn_233 (fun H locs hP hD hS => ?_)
                            replace hP : va_P D classes [(MO, .inr (12, oX12 aMO MO_taped MO_size MO_faultKind MO_faultPlace w8_MO_6 w119_MO_7 2 MO_number w156_MO_10 MO_bank MO_rb MO_codes MO_within MO_piled MO_unitsInRule MO_askThing MO_acts MO_undone MO_laid MO_heards MO_time)), ((aMO 1), .inl (cB, 1600, .inl MO_text))] H := hP
                            replace hD : va_D A [(MO, .inr (12, oX12 aMO MO_taped MO_size MO_faultKind MO_faultPlace w8_MO_6 w119_MO_7 2 MO_number w156_MO_10 MO_bank MO_rb MO_codes MO_within MO_piled MO_unitsInRule MO_askThing MO_acts MO_undone MO_laid MO_heards MO_time)), ((aMO 1), .inl (cB, 1600, .inl MO_text))] := hD
                            refine lv_goto (tgt := 377) hx hb dX12_goOn_236 (by decide) ?_
                            exact up _ _ _ (W.vret hx hb hr (fun t ht hW => ⟨⟨(), rfl, trivial, ⟨w8_MO_6, w119_MO_7, 2, MO_number, w156_MO_10, (zB_w bx85t_w8_MO_6 (by decide) (by decide)), (zB_w bw119_MO_7_k119 (by decide) (by decide)), (zB_w (show zB 2 2 2 from ⟨by decide, by decide⟩) (by decide) (by decide)), (zM_2 (b_MO_end).2 (by have h9_0 := k8_a; have h9_1 := k58_a; have h9_2 := p63_lt; have h9_3 := (zl c85); have h9_4 := p113_no; have h9_5 := k119_a; have h9_6 := p124_lt; have h9_7 := p127_no; have h9_8 := k156_a; have h9_9 := ry208; have h9_10 := (ze c211); have h9_11 := (show (2 : Int32).toInt = 2 from by decide); have h9_12 := (show (8 : Int32).toInt = 8 from by decide); have h9_13 := (b_MO_end).1; have h9_14 := (b_MO_end).2; have h9_15 := (by85t_MO_size).1; have h9_16 := (by85t_MO_size).2; have h9_17 := (hr124).1; have h9_18 := (hr124).2; have h9_19 := (br63_k119).1; have h9_20 := (br63_k119).2; have h9_21 := (bw119_MO_7_k119).1; have h9_22 := (bw119_MO_7_k119).2; have h9_23 := (bx85t_w8_MO_6).1; have h9_24 := (bx85t_w8_MO_6).2; have h9_25 := (bx211t_y208).1; have h9_26 := (bx211t_y208).2; have h9_27 := (show (0 : Int32).toInt = 0 from by decide); have h9_28 := (show (1 : Int32).toInt = 1 from by decide); have h9_29 := (show ((-1) : Int32).toInt = (-1) from by decide); omega)), by rw [ht]; exact hP, hD⟩⟩, hS.F ht⟩) hS.2.2 dX12_goOn_377)
                          · have bn225f_r222 : zB r222 1 1 := zB_neL c225 hr222 (show zB 0 0 0 from ⟨by decide, by decide⟩) (by decide)
                            refine lv_iconst (v := 3) hx hb dX12_goOn_228 (by decide) ?_
                            refine lv_goto (tgt := 233) hx hb dX12_goOn_229 (by decide) ?_
                            refine va_put (D := D) (ci := 12) (v := .int 3) (ty := tyX12 8) (C := RX12) (T := TX12) (N := 71) hx hb hts iw_X12_goOn_X12 tyX12 tyX12_ok nmX12 hown hK hP hD hS 0 rfl rfl 8 (by decide) (hts (.fieldLink RX12 223 "SoldHouseModel" "token" "I") (List.mem_of_getElem? (i := 4) rfl)) (fun _ h9 => h9) rfl (by decide +kernel) rfl rfl (Nat.le_of_ble_eq_true rfl) dX12_goOn_233 (fun H locs hP hD hS => ?_)
                            replace hP : va_P D classes [(MO, .inr (12, oX12 aMO MO_taped MO_size MO_faultKind MO_faultPlace w8_MO_6 w119_MO_7 3 MO_number w156_MO_10 MO_bank MO_rb MO_codes MO_within MO_piled MO_unitsInRule MO_askThing MO_acts MO_undone MO_laid MO_heards MO_time)), ((aMO 1), .inl (cB, 1600, .inl MO_text))] H := hP
                            replace hD : va_D A [(MO, .inr (12, oX12 aMO MO_taped MO_size MO_faultKind MO_faultPlace w8_MO_6 w119_MO_7 3 MO_number w156_MO_10 MO_bank MO_rb MO_codes MO_within MO_piled MO_unitsInRule MO_askThing MO_acts MO_undone MO_laid MO_heards MO_time)), ((aMO 1), .inl (cB, 1600, .inl MO_text))] := hD
                            refine lv_goto (tgt := 377) hx hb dX12_goOn_236 (by decide) ?_
                            exact up _ _ _ (W.vret hx hb hr (fun t ht hW => ⟨⟨(), rfl, trivial, ⟨w8_MO_6, w119_MO_7, 3, MO_number, w156_MO_10, (zB_w bx85t_w8_MO_6 (by decide) (by decide)), (zB_w bw119_MO_7_k119 (by decide) (by decide)), (zB_w (show zB 3 3 3 from ⟨by decide, by decide⟩) (by decide) (by decide)), (zM_2 (b_MO_end).2 (by have h9_0 := k8_a; have h9_1 := k58_a; have h9_2 := p63_lt; have h9_3 := (zl c85); have h9_4 := p113_no; have h9_5 := k119_a; have h9_6 := p124_lt; have h9_7 := p127_no; have h9_8 := k156_a; have h9_9 := ry208; have h9_10 := (ze c211); have h9_11 := (show (3 : Int32).toInt = 3 from by decide); have h9_12 := (show (8 : Int32).toInt = 8 from by decide); have h9_13 := (b_MO_end).1; have h9_14 := (b_MO_end).2; have h9_15 := (by85t_MO_size).1; have h9_16 := (by85t_MO_size).2; have h9_17 := (hr124).1; have h9_18 := (hr124).2; have h9_19 := (br63_k119).1; have h9_20 := (br63_k119).2; have h9_21 := (bw119_MO_7_k119).1; have h9_22 := (bw119_MO_7_k119).2; have h9_23 := (bx85t_w8_MO_6).1; have h9_24 := (bx85t_w8_MO_6).2; have h9_25 := (bx211t_y208).1; have h9_26 := (bx211t_y208).2; have h9_27 := (show (0 : Int32).toInt = 0 from by decide); have h9_28 := (show (1 : Int32).toInt = 1 from by decide); have h9_29 := (show ((-1) : Int32).toInt = (-1) from by decide); omega)), by rw [ht]; exact hP, hD⟩⟩, hS.F ht⟩) hS.2.2 dX12_goOn_377)
                        · have by211f_y208 : zB y208 9 1600 := zB_ltv (zf c211) (show zB 8 8 8 from ⟨by decide, by decide⟩) by208 (by decide)
                          refine lv_iconst (v := 1) hx hb dX12_goOn_214 (by decide) ?_
                          refine lv_goto (tgt := 233) hx hb dX12_goOn_215 (by decide) ?_
                          refine va_put (D := D) (ci := 12) (v := .int 1) (ty := tyX12 8) (C := RX12) (T := TX12) (N := 71) hx hb hts iw_X12_goOn_X12 tyX12 tyX12_ok nmX12 hown hK hP hD hS 0 rfl rfl 8 (by decide) (hts (.fieldLink RX12 223 "SoldHouseModel" "token" "I") (List.mem_of_getElem? (i := 4) rfl)) (fun _ h9 => h9) rfl (by decide +kernel) rfl rfl (Nat.le_of_ble_eq_true rfl) dX12_goOn_233 (fun H locs hP hD hS => ?_)
                          replace hP : va_P D classes [(MO, .inr (12, oX12 aMO MO_taped MO_size MO_faultKind MO_faultPlace w8_MO_6 w119_MO_7 1 MO_number w156_MO_10 MO_bank MO_rb MO_codes MO_within MO_piled MO_unitsInRule MO_askThing MO_acts MO_undone MO_laid MO_heards MO_time)), ((aMO 1), .inl (cB, 1600, .inl MO_text))] H := hP
                          replace hD : va_D A [(MO, .inr (12, oX12 aMO MO_taped MO_size MO_faultKind MO_faultPlace w8_MO_6 w119_MO_7 1 MO_number w156_MO_10 MO_bank MO_rb MO_codes MO_within MO_piled MO_unitsInRule MO_askThing MO_acts MO_undone MO_laid MO_heards MO_time)), ((aMO 1), .inl (cB, 1600, .inl MO_text))] := hD
                          refine lv_goto (tgt := 377) hx hb dX12_goOn_236 (by decide) ?_
                          exact up _ _ _ (W.vret hx hb hr (fun t ht hW => ⟨⟨(), rfl, trivial, ⟨w8_MO_6, w119_MO_7, 1, MO_number, w156_MO_10, (zB_w bx85t_w8_MO_6 (by decide) (by decide)), (zB_w bw119_MO_7_k119 (by decide) (by decide)), (zB_w (show zB 1 1 1 from ⟨by decide, by decide⟩) (by decide) (by decide)), (zM_2 (b_MO_end).2 (by have h9_0 := k8_a; have h9_1 := k58_a; have h9_2 := p63_lt; have h9_3 := (zl c85); have h9_4 := p113_no; have h9_5 := k119_a; have h9_6 := p124_lt; have h9_7 := p127_no; have h9_8 := k156_a; have h9_9 := ry208; have h9_10 := (zf c211); have h9_11 := (show (1 : Int32).toInt = 1 from by decide); have h9_12 := (show (8 : Int32).toInt = 8 from by decide); have h9_13 := (b_MO_end).1; have h9_14 := (b_MO_end).2; have h9_15 := (by85t_MO_size).1; have h9_16 := (by85t_MO_size).2; have h9_17 := (hr124).1; have h9_18 := (hr124).2; have h9_19 := (br63_k119).1; have h9_20 := (br63_k119).2; have h9_21 := (bw119_MO_7_k119).1; have h9_22 := (bw119_MO_7_k119).2; have h9_23 := (bx85t_w8_MO_6).1; have h9_24 := (bx85t_w8_MO_6).2; have h9_25 := (by211f_y208).1; have h9_26 := (by211f_y208).2; have h9_27 := (show (0 : Int32).toInt = 0 from by decide); have h9_28 := (show ((-1) : Int32).toInt = (-1) from by decide); omega)), by rw [ht]; exact hP, hD⟩⟩, hS.F ht⟩) hS.2.2 dX12_goOn_377)
                      refine lv_icmp_ge (tgt := 199) hx hb dX12_goOn_161 (by decide) (fun c161 => ?_) (fun c161 => ?_)
                      · have by161t_v156_2 : zB v156_2 1 1600 := zB_lev (ze c161) bw119_MO_7_k119 bv156_2_k156 (by decide)
                        exact j199 H locs ls by161t_v156_2 hP hD hS (lv_sub hl [0, 1, 2] rfl)
                      · have bx161f_v156_2 : zB v156_2 0 1599 := zB_ltu (zf c161) bv156_2_k156 bw119_MO_7_k119 (by decide)
                        refine lv_iload_n hx hb dX12_goOn_164 rfl (lv_at hl 0 rfl) ?_
                        refine lv_aload_n hx hb dX12_goOn_165 rfl (lv_at hl 2 rfl) ?_
                        refine va_get (D := D) (ci := 12) (v := .int w8_MO_6) (C := RX12) (T := TX12) (N := 71) hx hb hts iw_X12_goOn_X12 hown hK hP 0 rfl rfl 6 (by decide) (hts (.fieldLink RX12 216 "SoldHouseModel" "at" "I") (List.mem_of_getElem? (i := 2) rfl)) (fun _ h9 => h9) rfl dX12_goOn_166 ?_
                        refine lv_bipush (v := 8) hx hb dX12_goOn_169 (by decide) ?_
                        refine lv_iadd hx hb dX12_goOn_171 ?_
                        refine zi_top2 (P := fun y => y.toInt = w8_MO_6.toInt + 8) (a := 8) (b := 1607) (zB_add bx85t_w8_MO_6 (show zB 8 8 8 from ⟨by decide, by decide⟩) (by decide) (by decide) (by decide) (by decide)) (zR_addc bx85t_w8_MO_6 (by decide) (by decide) (by decide)) (fun y171 by171 ry171 => ?_)
                        refine lv_icmp_ge (tgt := 199) hx hb dX12_goOn_172 (by decide) (fun c172 => ?_) (fun c172 => ?_)
                        · have bx172t_y171 : zB y171 8 1599 := zB_leu (ze c172) by171 bx161f_v156_2 (by decide)
                          have bzx172t_w8_MO_6 : zB w8_MO_6 0 1591 := zB_meet (zB_bk (a := 0) (b := 1591) bx172t_y171 ry171 (by decide) (by decide)) bx85t_w8_MO_6 (by decide) (by decide)
                          have bfzx172t_y73 : zB y73 1 1592 := zB_meet (zB_fw (a := 1) (b := 1592) bzx172t_w8_MO_6 ry73 (by decide) (by decide)) bfx85t_y73 (by decide) (by decide)
                          have by172t_v156_2 : zB v156_2 8 1599 := zB_lev (ze c172) bx172t_y171 bx161f_v156_2 (by decide)
                          exact j199 H locs ls (zB_w by172t_v156_2 (by decide) (by decide)) hP hD hS (lv_sub hl [0, 1, 2] rfl)
                        · refine lv_aload_n hx hb dX12_goOn_175 rfl (lv_at hl 2 rfl) ?_
                          refine lv_aload_n hx hb dX12_goOn_176 rfl (lv_at hl 2 rfl) ?_
                          refine va_get (D := D) (ci := 12) (v := .long w156_MO_10) (C := RX12) (T := TX12) (N := 71) hx hb hts iw_X12_goOn_X12 hown hK hP 0 rfl rfl 10 (by decide) (hts (.fieldLink RX12 230 "SoldHouseModel" "name" "J") (List.mem_of_getElem? (i := 5) rfl)) (fun _ h9 => h9) rfl dX12_goOn_177 ?_
                          refine lv_bipush (v := 8) hx hb dX12_goOn_180 (by decide) ?_
                          refine lv_lshl hx hb dX12_goOn_182 rfl ?_
                          refine lv_topl (fun y182 _ => ?_)
                          refine lv_aload_n hx hb dX12_goOn_183 rfl (lv_at hl 2 rfl) ?_
                          refine lv_iload_n hx hb dX12_goOn_184 rfl (lv_at hl 0 rfl) ?_
                          have hPc := hP.sub (ws' := [(MO, .inr (12, oX12 aMO MO_taped MO_size MO_faultKind MO_faultPlace w8_MO_6 w119_MO_7 MO_token MO_number w156_MO_10 MO_bank MO_rb MO_codes MO_within MO_piled MO_unitsInRule MO_askThing MO_acts MO_undone MO_laid MO_heards MO_time)), ((aMO 1), .inl (cB, 1600, .inl MO_text))]) [0, 1] rfl
                          refine vp_callSi (va_runV (As := [.int v156_2]) (rest := [.long y182, .ref MO]) ⟨hx, hb, hml, hown, hts⟩ (c_X12_sign l D cI cB cL cZ cG MO v156_2 aMO MO_taped MO_size MO_faultKind MO_faultPlace w8_MO_6 w119_MO_7 MO_token MO_number w156_MO_10 MO_bank MO_rb MO_codes MO_within MO_piled MO_unitsInRule MO_askThing MO_acts MO_undone MO_laid MO_heards MO_time MO_text (zB_w bx161f_v156_2 (by decide) (by decide)) b_MO_taped (zB_w by85t_MO_size (by decide) (by decide)) b_MO_faultKind (zB_w bx85t_w8_MO_6 (by decide) (by decide)) (zB_w bw119_MO_7_k119 (by decide) (by decide)) b_MO_token b_MO_bank b_MO_rb b_MO_codes b_MO_within b_MO_piled b_MO_unitsInRule b_MO_askThing b_MO_acts b_MO_undone b_MO_laid b_MO_heards b_MO_time) (cwV 1 hts gX12_goOn_X12_sign rfl rfl rfl (by decide +kernel) ⟨Nat.le_of_ble_eq_true rfl, Nat.le_of_ble_eq_true rfl⟩) ⟨xr_blind, va_recv hK hP (ci := 12) (q0 := 0) rfl rfl, fun U hU hW => xr_mk hU hW hPc hK⟩ rfl rfl hl.1 rfl (lv_room (Nat.le_of_ble_eq_true rfl)) dX12_goOn_185 ⟨Nat.le_of_ble_eq_true rfl, Nat.le_of_ble_eq_true rfl⟩).run (fun r185 hr185 => ?_)
                          obtain ⟨hr185, p185_lt, p185_fn⟩ := hr185
                          clear hPc
                          refine lv_i2l hx hb dX12_goOn_188 rfl ?_
                          refine lv_topl (fun y188 _ => ?_)
                          refine lv_lor hx hb dX12_goOn_189 ?_
                          refine lv_topl (fun y189 _ => ?_)
                          refine va_put (D := D) (ci := 12) (v := .long y189) (ty := tyX12 10) (C := RX12) (T := TX12) (N := 71) hx hb hts iw_X12_goOn_X12 tyX12 tyX12_ok nmX12 hown hK hP hD hS 0 rfl rfl 10 (by decide) (hts (.fieldLink RX12 230 "SoldHouseModel" "name" "J") (List.mem_of_getElem? (i := 5) rfl)) (fun _ h9 => h9) rfl (by decide +kernel) rfl rfl (Nat.le_of_ble_eq_true rfl) dX12_goOn_190 (fun H locs hP hD hS => ?_)
                          replace hP : va_P D classes [(MO, .inr (12, oX12 aMO MO_taped MO_size MO_faultKind MO_faultPlace w8_MO_6 w119_MO_7 MO_token MO_number y189 MO_bank MO_rb MO_codes MO_within MO_piled MO_unitsInRule MO_askThing MO_acts MO_undone MO_laid MO_heards MO_time)), ((aMO 1), .inl (cB, 1600, .inl MO_text))] H := hP
                          replace hD : va_D A [(MO, .inr (12, oX12 aMO MO_taped MO_size MO_faultKind MO_faultPlace w8_MO_6 w119_MO_7 MO_token MO_number y189 MO_bank MO_rb MO_codes MO_within MO_piled MO_unitsInRule MO_askThing MO_acts MO_undone MO_laid MO_heards MO_time)), ((aMO 1), .inl (cB, 1600, .inl MO_text))] := hD
                          obtain ⟨y193, by193, ry193, ey193⟩ := zi_inc (x := v156_2) (k := 1) (a := 1) (b := 1600) bx161f_v156_2 (by decide) (by decide) (by decide) (by decide) (by decide)
                          refine lv_iinc (v := y193) (lv' := [(2, .int y193), (1, .int r63), (0, .ref MO)]) hx hb dX12_goOn_193 hl (k := 0) rfl ey193 (by decide) rfl (fun ls hl => ?_)
                          refine lv_goto (tgt := 156) hx hb dX12_goOn_196 (by decide) ?_
                          exact ih156 H locs ls y193 y189 (zB_w by193 (by decide) (by decide)) (by have h9_0 := k8_a; have h9_1 := k58_a; have h9_2 := p63_lt; have h9_3 := (zl c85); have h9_4 := p113_no; have h9_5 := k119_a; have h9_6 := p124_lt; have h9_7 := p127_no; have h9_8 := k156_a; have h9_9 := (zf c161); have h9_10 := (zf c172); have h9_11 := p185_lt; have h9_12 := ry193; have h9_13 := (b_MO_end).1; have h9_14 := (b_MO_end).2; have h9_15 := (by85t_MO_size).1; have h9_16 := (by85t_MO_size).2; have h9_17 := (hr124).1; have h9_18 := (hr124).2; have h9_19 := (hr185).1; have h9_20 := (hr185).2; have h9_21 := (br63_k119).1; have h9_22 := (br63_k119).2; have h9_23 := (bx161f_v156_2).1; have h9_24 := (bx161f_v156_2).2; have h9_25 := (bw119_MO_7_k119).1; have h9_26 := (bw119_MO_7_k119).2; have h9_27 := (bx85t_w8_MO_6).1; have h9_28 := (bx85t_w8_MO_6).2; have h9_29 := (by171).1; have h9_30 := (by171).2; have h9_31 := (by193).1; have h9_32 := (by193).2; have h9_33 := (show (0 : Int32).toInt = 0 from by decide); have h9_34 := (show (1 : Int32).toInt = 1 from by decide); have h9_35 := (show ((-1) : Int32).toInt = (-1) from by decide); omega) (zM_us (k := 1) hm156 ry193 (by decide)) hP hD hS (lv_sub hl [0, 1, 2] rfl)
                  refine lv_istore_n (lv' := [(2, .int w8_MO_6), (1, .int r63), (0, .ref MO)]) hx hb dX12_goOn_155 rfl hl (by decide) rfl (fun ls hl => ?_)
                  exact j156 1601 H locs ls w8_MO_6 0 (zB_w bx85t_w8_MO_6 (by decide) (by decide)) (by have h9_0 := k8_a; have h9_1 := k58_a; have h9_2 := p63_lt; have h9_3 := (zl c85); have h9_4 := p113_no; have h9_5 := k119_a; have h9_6 := p124_lt; have h9_7 := p127_no; have h9_8 := (b_MO_end).1; have h9_9 := (b_MO_end).2; have h9_10 := (by85t_MO_size).1; have h9_11 := (by85t_MO_size).2; have h9_12 := (hr124).1; have h9_13 := (hr124).2; have h9_14 := (br63_k119).1; have h9_15 := (br63_k119).2; have h9_16 := (bw119_MO_7_k119).1; have h9_17 := (bw119_MO_7_k119).2; have h9_18 := (bx85t_w8_MO_6).1; have h9_19 := (bx85t_w8_MO_6).2; have h9_20 := (show (0 : Int32).toInt = 0 from by decide); have h9_21 := (show (1 : Int32).toInt = 1 from by decide); have h9_22 := (show ((-1) : Int32).toInt = (-1) from by decide); omega) (zM_ui bx85t_w8_MO_6 (by decide)) hP hD hS (lv_sub hl [0, 1, 2] rfl)
                · refine lv_if_eq (tgt := 146) hx hb dX12_goOn_130 (by decide) (fun c130 => absurd c130 (by decide)) (fun _ => ?_)
                  have bh133_w119_MO_7 : zB w119_MO_7 1 1599 := ⟨(by have h9_0 := k8_a; have h9_1 := k58_a; have h9_2 := p63_lt; have h9_3 := (zl c85); have h9_4 := p113_no; have h9_5 := k119_a; have h9_6 := p124_lt; have h9_7 := p127_no; have h9_8 := (b_MO_end).1; have h9_9 := (b_MO_end).2; have h9_10 := (by85t_MO_size).1; have h9_11 := (by85t_MO_size).2; have h9_12 := (hr127_1_0).1; have h9_13 := (hr127_1_0).2; have h9_14 := (br63_k119).1; have h9_15 := (br63_k119).2; have h9_16 := (bw119_MO_7_k119).1; have h9_17 := (bw119_MO_7_k119).2; have h9_18 := (bx85t_w8_MO_6).1; have h9_19 := (bx85t_w8_MO_6).2; have h9_20 := (show (0 : Int32).toInt = 0 from by decide); have h9_21 := (show (1 : Int32).toInt = 1 from by decide); have h9_22 := (show ((-1) : Int32).toInt = (-1) from by decide); omega), (by have h9_0 := k8_a; have h9_1 := k58_a; have h9_2 := p63_lt; have h9_3 := (zl c85); have h9_4 := p113_no; have h9_5 := k119_a; have h9_6 := p124_lt; have h9_7 := p127_no; have h9_8 := (b_MO_end).1; have h9_9 := (b_MO_end).2; have h9_10 := (by85t_MO_size).1; have h9_11 := (by85t_MO_size).2; have h9_12 := (hr127_1_0).1; have h9_13 := (hr127_1_0).2; have h9_14 := (br63_k119).1; have h9_15 := (br63_k119).2; have h9_16 := (bw119_MO_7_k119).1; have h9_17 := (bw119_MO_7_k119).2; have h9_18 := (bx85t_w8_MO_6).1; have h9_19 := (bx85t_w8_MO_6).2; have h9_20 := (show (0 : Int32).toInt = 0 from by decide); have h9_21 := (show (1 : Int32).toInt = 1 from by decide); have h9_22 := (show ((-1) : Int32).toInt = (-1) from by decide); omega)⟩
                  refine lv_aload_n hx hb dX12_goOn_133 rfl (lv_at hl 1 rfl) ?_
                  refine lv_dup hx hb dX12_goOn_134 rfl ?_
                  refine va_get (D := D) (ci := 12) (v := .int w119_MO_7) (C := RX12) (T := TX12) (N := 71) hx hb hts iw_X12_goOn_X12 hown hK hP 0 rfl rfl 7 (by decide) (hts (.fieldLink RX12 213 "SoldHouseModel" "end" "I") (List.mem_of_getElem? (i := 1) rfl)) (fun _ h9 => h9) rfl dX12_goOn_135 ?_
                  refine lv_iconst (v := 1) hx hb dX12_goOn_138 (by decide) ?_
                  refine lv_iadd hx hb dX12_goOn_139 ?_
                  refine zi_top2 (P := fun y => y.toInt = w119_MO_7.toInt + 1) (a := 2) (b := 1600) (zB_add bh133_w119_MO_7 (show zB 1 1 1 from ⟨by decide, by decide⟩) (by decide) (by decide) (by decide) (by decide)) (zR_addc bh133_w119_MO_7 (by decide) (by decide) (by decide)) (fun y139 by139 ry139 => ?_)
                  refine va_put (D := D) (ci := 12) (v := .int y139) (ty := tyX12 7) (C := RX12) (T := TX12) (N := 71) hx hb hts iw_X12_goOn_X12 tyX12 tyX12_ok nmX12 hown hK hP hD hS 0 rfl rfl 7 (by decide) (hts (.fieldLink RX12 213 "SoldHouseModel" "end" "I") (List.mem_of_getElem? (i := 1) rfl)) (fun _ h9 => h9) rfl (by decide +kernel) rfl rfl (Nat.le_of_ble_eq_true rfl) dX12_goOn_140 (fun H locs hP hD hS => ?_)
                  replace hP : va_P D classes [(MO, .inr (12, oX12 aMO MO_taped MO_size MO_faultKind MO_faultPlace w8_MO_6 y139 MO_token MO_number MO_name MO_bank MO_rb MO_codes MO_within MO_piled MO_unitsInRule MO_askThing MO_acts MO_undone MO_laid MO_heards MO_time)), ((aMO 1), .inl (cB, 1600, .inl MO_text))] H := hP
                  replace hD : va_D A [(MO, .inr (12, oX12 aMO MO_taped MO_size MO_faultKind MO_faultPlace w8_MO_6 y139 MO_token MO_number MO_name MO_bank MO_rb MO_codes MO_within MO_piled MO_unitsInRule MO_askThing MO_acts MO_undone MO_laid MO_heards MO_time)), ((aMO 1), .inl (cB, 1600, .inl MO_text))] := hD
                  refine lv_goto (tgt := 119) hx hb dX12_goOn_143 (by decide) ?_
                  exact ih119 H locs ls y139 br63_k119 (zB_w by139 (by decide) (by decide)) (by have h9_0 := k8_a; have h9_1 := k58_a; have h9_2 := p63_lt; have h9_3 := (zl c85); have h9_4 := p113_no; have h9_5 := k119_a; have h9_6 := p124_lt; have h9_7 := p127_no; have h9_8 := (b_MO_end).1; have h9_9 := (b_MO_end).2; have h9_10 := (by85t_MO_size).1; have h9_11 := (by85t_MO_size).2; have h9_12 := (hr127_1_0).1; have h9_13 := (hr127_1_0).2; have h9_14 := (br63_k119).1; have h9_15 := (br63_k119).2; have h9_16 := (bh133_w119_MO_7).1; have h9_17 := (bh133_w119_MO_7).2; have h9_18 := (bx85t_w8_MO_6).1; have h9_19 := (bx85t_w8_MO_6).2; have h9_20 := (by139).1; have h9_21 := (by139).2; have h9_22 := (show (0 : Int32).toInt = 0 from by decide); have h9_23 := (show (1 : Int32).toInt = 1 from by decide); have h9_24 := (show ((-1) : Int32).toInt = (-1) from by decide); omega) (zM_us (k := 1) hm119 ry139 (by decide)) hP hD hS (lv_sub hl [0, 1] rfl)
            refine lv_if_eq (tgt := 239) hx hb dX12_goOn_116 (by decide) (fun _ => ?_) (fun c116 => absurd (by decide) c116)
            refine lv_iload_n hx hb dX12_goOn_239 rfl (lv_at hl 0 rfl) ?_
            have hPc := hP.sub (ws' := []) [] rfl
            refine vp_callSi (va_runS (As := [.int r63]) (rest := []) ⟨hx, hb, hml, hown, hts⟩ (c_X12_isDigit l D cI cB cL cZ cG r63) (va_cwS 1 hts gX12_goOn_X12_isDigit rfl rfl rfl (by decide +kernel) ⟨Nat.le_of_ble_eq_true rfl, Nat.le_of_ble_eq_true rfl⟩) ⟨xr_blind, fun U hU hW => xr_mk hU hW hPc hK⟩ rfl rfl hl.1 rfl (lv_room (Nat.le_of_ble_eq_true rfl)) dX12_goOn_240 ⟨Nat.le_of_ble_eq_true rfl, Nat.le_of_ble_eq_true rfl⟩).run (fun r240 hr240 => ?_)
            obtain ⟨hr240, p240_no⟩ := hr240
            clear hPc
            rcases hr240 with rfl | ⟨rfl, hr240_1_0⟩
            · refine lv_if_eq (tgt := 361) hx hb dX12_goOn_243 (by decide) (fun _ => ?_) (fun c243 => absurd (by decide) c243)
              refine lv_aload_n hx hb dX12_goOn_361 rfl (lv_at hl 1 rfl) ?_
              refine lv_iload_n hx hb dX12_goOn_362 rfl (lv_at hl 0 rfl) ?_
              have hPc := hP.sub (ws' := []) [] rfl
              refine vp_callSi (va_runS (As := [.int r63]) (rest := [.ref MO]) ⟨hx, hb, hml, hown, hts⟩ (c_X12_isSign l D cI cB cL cZ cG r63) (va_cwS 1 hts gX12_goOn_X12_isSign rfl rfl rfl (by decide +kernel) ⟨Nat.le_of_ble_eq_true rfl, Nat.le_of_ble_eq_true rfl⟩) ⟨xr_blind, fun U hU hW => xr_mk hU hW hPc hK⟩ rfl rfl hl.1 rfl (lv_room (Nat.le_of_ble_eq_true rfl)) dX12_goOn_363 ⟨Nat.le_of_ble_eq_true rfl, Nat.le_of_ble_eq_true rfl⟩).run (fun r363 hr363 => ?_)
              clear hPc
              rcases hr363 with rfl | ⟨rfl, hr363_1_0⟩
              · refine lv_if_eq (tgt := 373) hx hb dX12_goOn_366 (by decide) (fun _ => ?_) (fun c366 => absurd (by decide) c366)
                refine lv_iconst (v := 1) hx hb dX12_goOn_373 (by decide) ?_
                refine va_put (D := D) (ci := 12) (v := .int 1) (ty := tyX12 8) (C := RX12) (T := TX12) (N := 71) hx hb hts iw_X12_goOn_X12 tyX12 tyX12_ok nmX12 hown hK hP hD hS 0 rfl rfl 8 (by decide) (hts (.fieldLink RX12 223 "SoldHouseModel" "token" "I") (List.mem_of_getElem? (i := 4) rfl)) (fun _ h9 => h9) rfl (by decide +kernel) rfl rfl (Nat.le_of_ble_eq_true rfl) dX12_goOn_374 (fun H locs hP hD hS => ?_)
                replace hP : va_P D classes [(MO, .inr (12, oX12 aMO MO_taped MO_size MO_faultKind MO_faultPlace w8_MO_6 y73 1 MO_number MO_name MO_bank MO_rb MO_codes MO_within MO_piled MO_unitsInRule MO_askThing MO_acts MO_undone MO_laid MO_heards MO_time)), ((aMO 1), .inl (cB, 1600, .inl MO_text))] H := hP
                replace hD : va_D A [(MO, .inr (12, oX12 aMO MO_taped MO_size MO_faultKind MO_faultPlace w8_MO_6 y73 1 MO_number MO_name MO_bank MO_rb MO_codes MO_within MO_piled MO_unitsInRule MO_askThing MO_acts MO_undone MO_laid MO_heards MO_time)), ((aMO 1), .inl (cB, 1600, .inl MO_text))] := hD
                exact up _ _ _ (W.vret hx hb hr (fun t ht hW => ⟨⟨(), rfl, trivial, ⟨w8_MO_6, y73, 1, MO_number, MO_name, (zB_w bx85t_w8_MO_6 (by decide) (by decide)), (zB_w bfx85t_y73 (by decide) (by decide)), (zB_w (show zB 1 1 1 from ⟨by decide, by decide⟩) (by decide) (by decide)), (zM_2 (b_MO_end).2 (by have h9_0 := k8_a; have h9_1 := k58_a; have h9_2 := p63_lt; have h9_3 := (zl c85); have h9_4 := p113_no; have h9_5 := p240_no; have h9_6 := (show (1 : Int32).toInt = 1 from by decide); have h9_7 := (b_MO_end).1; have h9_8 := (b_MO_end).2; have h9_9 := (by85t_MO_size).1; have h9_10 := (by85t_MO_size).2; have h9_11 := (hr63).1; have h9_12 := (hr63).2; have h9_13 := (bx85t_w8_MO_6).1; have h9_14 := (bx85t_w8_MO_6).2; have h9_15 := (bfx85t_y73).1; have h9_16 := (bfx85t_y73).2; have h9_17 := (show (0 : Int32).toInt = 0 from by decide); have h9_18 := (show ((-1) : Int32).toInt = (-1) from by decide); omega)), by rw [ht]; exact hP, hD⟩⟩, hS.F ht⟩) hS.2.2 dX12_goOn_377)
              · refine lv_if_eq (tgt := 373) hx hb dX12_goOn_366 (by decide) (fun c366 => absurd c366 (by decide)) (fun _ => ?_)
                refine lv_iconst (v := 5) hx hb dX12_goOn_369 (by decide) ?_
                refine lv_goto (tgt := 374) hx hb dX12_goOn_370 (by decide) ?_
                refine va_put (D := D) (ci := 12) (v := .int 5) (ty := tyX12 8) (C := RX12) (T := TX12) (N := 71) hx hb hts iw_X12_goOn_X12 tyX12 tyX12_ok nmX12 hown hK hP hD hS 0 rfl rfl 8 (by decide) (hts (.fieldLink RX12 223 "SoldHouseModel" "token" "I") (List.mem_of_getElem? (i := 4) rfl)) (fun _ h9 => h9) rfl (by decide +kernel) rfl rfl (Nat.le_of_ble_eq_true rfl) dX12_goOn_374 (fun H locs hP hD hS => ?_)
                replace hP : va_P D classes [(MO, .inr (12, oX12 aMO MO_taped MO_size MO_faultKind MO_faultPlace w8_MO_6 y73 5 MO_number MO_name MO_bank MO_rb MO_codes MO_within MO_piled MO_unitsInRule MO_askThing MO_acts MO_undone MO_laid MO_heards MO_time)), ((aMO 1), .inl (cB, 1600, .inl MO_text))] H := hP
                replace hD : va_D A [(MO, .inr (12, oX12 aMO MO_taped MO_size MO_faultKind MO_faultPlace w8_MO_6 y73 5 MO_number MO_name MO_bank MO_rb MO_codes MO_within MO_piled MO_unitsInRule MO_askThing MO_acts MO_undone MO_laid MO_heards MO_time)), ((aMO 1), .inl (cB, 1600, .inl MO_text))] := hD
                exact up _ _ _ (W.vret hx hb hr (fun t ht hW => ⟨⟨(), rfl, trivial, ⟨w8_MO_6, y73, 5, MO_number, MO_name, (zB_w bx85t_w8_MO_6 (by decide) (by decide)), (zB_w bfx85t_y73 (by decide) (by decide)), (zB_w (show zB 5 5 5 from ⟨by decide, by decide⟩) (by decide) (by decide)), (zM_2 (b_MO_end).2 (by have h9_0 := k8_a; have h9_1 := k58_a; have h9_2 := p63_lt; have h9_3 := (zl c85); have h9_4 := p113_no; have h9_5 := p240_no; have h9_6 := (show (5 : Int32).toInt = 5 from by decide); have h9_7 := (b_MO_end).1; have h9_8 := (b_MO_end).2; have h9_9 := (by85t_MO_size).1; have h9_10 := (by85t_MO_size).2; have h9_11 := (hr363_1_0).1; have h9_12 := (hr363_1_0).2; have h9_13 := (bx85t_w8_MO_6).1; have h9_14 := (bx85t_w8_MO_6).2; have h9_15 := (bfx85t_y73).1; have h9_16 := (bfx85t_y73).2; have h9_17 := (show (0 : Int32).toInt = 0 from by decide); have h9_18 := (show (1 : Int32).toInt = 1 from by decide); have h9_19 := (show ((-1) : Int32).toInt = (-1) from by decide); omega)), by rw [ht]; exact hP, hD⟩⟩, hS.F ht⟩) hS.2.2 dX12_goOn_377)
            · refine lv_if_eq (tgt := 361) hx hb dX12_goOn_243 (by decide) (fun c243 => absurd c243 (by decide)) (fun _ => ?_)
              refine lv_aload_n hx hb dX12_goOn_246 rfl (lv_at hl 1 rfl) ?_
              refine lv_iconst (v := 0) hx hb dX12_goOn_247 (by decide) ?_
              refine va_put (D := D) (ci := 12) (v := .int 0) (ty := tyX12 9) (C := RX12) (T := TX12) (N := 71) hx hb hts iw_X12_goOn_X12 tyX12 tyX12_ok nmX12 hown hK hP hD hS 0 rfl rfl 9 (by decide) (hts (.fieldLink RX12 241 "SoldHouseModel" "number" "I") (List.mem_of_getElem? (i := 6) rfl)) (fun _ h9 => h9) rfl (by decide +kernel) rfl rfl (Nat.le_of_ble_eq_true rfl) dX12_goOn_248 (fun H locs hP hD hS => ?_)
              replace hP : va_P D classes [(MO, .inr (12, oX12 aMO MO_taped MO_size MO_faultKind MO_faultPlace w8_MO_6 y73 MO_token 0 MO_name MO_bank MO_rb MO_codes MO_within MO_piled MO_unitsInRule MO_askThing MO_acts MO_undone MO_laid MO_heards MO_time)), ((aMO 1), .inl (cB, 1600, .inl MO_text))] H := hP
              replace hD : va_D A [(MO, .inr (12, oX12 aMO MO_taped MO_size MO_faultKind MO_faultPlace w8_MO_6 y73 MO_token 0 MO_name MO_bank MO_rb MO_codes MO_within MO_piled MO_unitsInRule MO_askThing MO_acts MO_undone MO_laid MO_heards MO_time)), ((aMO 1), .inl (cB, 1600, .inl MO_text))] := hD
              refine lv_aload_n hx hb dX12_goOn_251 rfl (lv_at hl 1 rfl) ?_
              refine lv_aload_n hx hb dX12_goOn_252 rfl (lv_at hl 1 rfl) ?_
              refine va_get (D := D) (ci := 12) (v := .int w8_MO_6) (C := RX12) (T := TX12) (N := 71) hx hb hts iw_X12_goOn_X12 hown hK hP 0 rfl rfl 6 (by decide) (hts (.fieldLink RX12 216 "SoldHouseModel" "at" "I") (List.mem_of_getElem? (i := 2) rfl)) (fun _ h9 => h9) rfl dX12_goOn_253 ?_
              have j259 : ∀ (n259 : Nat) (H : Heap) (locs : List Loc) (ls : Array Slot) (w259_MO_7 : Int32) (w259_MO_9 : Int32), zB w259_MO_7 0 1600 → (w259_MO_7.toInt = w8_MO_6.toInt ∨ w8_MO_6.toInt + 1 ≤ w259_MO_7.toInt) → (1600 + 1 - w259_MO_7.toInt) ≤ (n259 : Int) → va_P D classes [(MO, .inr (12, oX12 aMO MO_taped MO_size MO_faultKind MO_faultPlace w8_MO_6 w259_MO_7 MO_token w259_MO_9 MO_name MO_bank MO_rb MO_codes MO_within MO_piled MO_unitsInRule MO_askThing MO_acts MO_undone MO_laid MO_heards MO_time)), ((aMO 1), .inl (cB, 1600, .inl MO_text))] H → va_D A [(MO, .inr (12, oX12 aMO MO_taped MO_size MO_faultKind MO_faultPlace w8_MO_6 w259_MO_7 MO_token w259_MO_9 MO_name MO_bank MO_rb MO_codes MO_within MO_piled MO_unitsInRule MO_askThing MO_acts MO_undone MO_laid MO_heards MO_time)), ((aMO 1), .inl (cB, 1600, .inl MO_text))] → va_S A s.heap H locs → lv_has ls 3 [(1, .int r63), (0, .ref MO)] → W p l e ({ frames := 1, cells := 0, slots := 0, locals := 22 } : Room) s m ([.ref MO] : List Value).toArray below meth c H locs 0 0 Q (F0 m 259 ls []) := by
                intro n259
                induction n259 with
                | zero => intro H locs ls w259_MO_7 w259_MO_9 bw259_MO_7_k259 k259_d hm259 hP hD hS hl; exact zM_u0 bw259_MO_7_k259 hm259
                | succ n259 ih259 =>
                  intro H locs ls w259_MO_7 w259_MO_9 bw259_MO_7_k259 k259_d hm259 hP hD hS hl
                  refine lv_aload_n hx hb dX12_goOn_259 rfl (lv_at hl 1 rfl) ?_
                  refine lv_aload_n hx hb dX12_goOn_260 rfl (lv_at hl 1 rfl) ?_
                  refine va_get (D := D) (ci := 12) (v := .int w259_MO_7) (C := RX12) (T := TX12) (N := 71) hx hb hts iw_X12_goOn_X12 hown hK hP 0 rfl rfl 7 (by decide) (hts (.fieldLink RX12 213 "SoldHouseModel" "end" "I") (List.mem_of_getElem? (i := 1) rfl)) (fun _ h9 => h9) rfl dX12_goOn_261 ?_
                  have hPc := hP.sub (ws' := [(MO, .inr (12, oX12 aMO MO_taped MO_size MO_faultKind MO_faultPlace w8_MO_6 w259_MO_7 MO_token w259_MO_9 MO_name MO_bank MO_rb MO_codes MO_within MO_piled MO_unitsInRule MO_askThing MO_acts MO_undone MO_laid MO_heards MO_time)), ((aMO 1), .inl (cB, 1600, .inl MO_text))]) [0, 1] rfl
                  refine vp_callSi (va_runV (As := [.int w259_MO_7]) (rest := []) ⟨hx, hb, hml, hown, hts⟩ (c_X12_sign l D cI cB cL cZ cG MO w259_MO_7 aMO MO_taped MO_size MO_faultKind MO_faultPlace w8_MO_6 w259_MO_7 MO_token w259_MO_9 MO_name MO_bank MO_rb MO_codes MO_within MO_piled MO_unitsInRule MO_askThing MO_acts MO_undone MO_laid MO_heards MO_time MO_text bw259_MO_7_k259 b_MO_taped (zB_w by85t_MO_size (by decide) (by decide)) b_MO_faultKind (zB_w bx85t_w8_MO_6 (by decide) (by decide)) bw259_MO_7_k259 b_MO_token b_MO_bank b_MO_rb b_MO_codes b_MO_within b_MO_piled b_MO_unitsInRule b_MO_askThing b_MO_acts b_MO_undone b_MO_laid b_MO_heards b_MO_time) (cwV 1 hts gX12_goOn_X12_sign rfl rfl rfl (by decide +kernel) ⟨Nat.le_of_ble_eq_true rfl, Nat.le_of_ble_eq_true rfl⟩) ⟨xr_blind, va_recv hK hP (ci := 12) (q0 := 0) rfl rfl, fun U hU hW => xr_mk hU hW hPc hK⟩ rfl rfl hl.1 rfl (lv_room (Nat.le_of_ble_eq_true rfl)) dX12_goOn_264 ⟨Nat.le_of_ble_eq_true rfl, Nat.le_of_ble_eq_true rfl⟩).run (fun r264 hr264 => ?_)
                  obtain ⟨hr264, p264_lt, p264_fn⟩ := hr264
                  clear hPc
                  have hPc := hP.sub (ws' := []) [] rfl
                  refine vp_callSi (va_runS (As := [.int r264]) (rest := []) ⟨hx, hb, hml, hown, hts⟩ (c_X12_isDigit l D cI cB cL cZ cG r264) (va_cwS 1 hts gX12_goOn_X12_isDigit rfl rfl rfl (by decide +kernel) ⟨Nat.le_of_ble_eq_true rfl, Nat.le_of_ble_eq_true rfl⟩) ⟨xr_blind, fun U hU hW => xr_mk hU hW hPc hK⟩ rfl rfl hl.1 rfl (lv_room (Nat.le_of_ble_eq_true rfl)) dX12_goOn_267 ⟨Nat.le_of_ble_eq_true rfl, Nat.le_of_ble_eq_true rfl⟩).run (fun r267 hr267 => ?_)
                  obtain ⟨hr267, p267_no⟩ := hr267
                  clear hPc
                  rcases hr267 with rfl | ⟨rfl, hr267_1_0⟩
                  · refine lv_if_eq (tgt := 322) hx hb dX12_goOn_270 (by decide) (fun _ => ?_) (fun c270 => absurd (by decide) c270)
                    have q322 : w8_MO_6.toInt + 1 ≤ w259_MO_7.toInt := by
                      rcases k259_d with h9 | h9
                      · exfalso; have h8 := p264_fn; rw [Int32.toInt_inj.mp h9, ← p63_fn] at h8; subst h8; have h7 := p267_no (by decide); have h6 := (hr240_1_0).1; have h5 := (hr240_1_0).2; omega
                      · exact h9
                    refine lv_aload_n hx hb dX12_goOn_322 rfl (lv_at hl 1 rfl) ?_
                    refine lv_aload_n hx hb dX12_goOn_323 rfl (lv_at hl 1 rfl) ?_
                    refine va_get (D := D) (ci := 12) (v := .int w259_MO_7) (C := RX12) (T := TX12) (N := 71) hx hb hts iw_X12_goOn_X12 hown hK hP 0 rfl rfl 7 (by decide) (hts (.fieldLink RX12 213 "SoldHouseModel" "end" "I") (List.mem_of_getElem? (i := 1) rfl)) (fun _ h9 => h9) rfl dX12_goOn_324 ?_
                    refine lv_aload_n hx hb dX12_goOn_327 rfl (lv_at hl 1 rfl) ?_
                    refine va_get (D := D) (ci := 12) (v := .int w8_MO_6) (C := RX12) (T := TX12) (N := 71) hx hb hts iw_X12_goOn_X12 hown hK hP 0 rfl rfl 6 (by decide) (hts (.fieldLink RX12 216 "SoldHouseModel" "at" "I") (List.mem_of_getElem? (i := 2) rfl)) (fun _ h9 => h9) rfl dX12_goOn_328 ?_
                    refine lv_isub hx hb dX12_goOn_331 ?_
                    refine zi_top3 (P := fun y => y.toInt = w259_MO_7.toInt - w8_MO_6.toInt) (a := (-1599)) (b := 1600) (zB_sub bw259_MO_7_k259 bx85t_w8_MO_6 (by decide) (by decide) (by decide) (by decide)) (zL_sub bw259_MO_7_k259 bx85t_w8_MO_6 (by decide) (by decide) rfl rfl) (fun y331 ey331 by331 ry331 => ?_)
                    clear ey331
                    refine lv_iconst (v := 4) hx hb dX12_goOn_332 (by decide) ?_
                    have j350 : ∀ (H : Heap) (locs : List Loc) (ls : Array Slot), va_P D classes [(MO, .inr (12, oX12 aMO MO_taped MO_size MO_faultKind MO_faultPlace w8_MO_6 w259_MO_7 MO_token w259_MO_9 MO_name MO_bank MO_rb MO_codes MO_within MO_piled MO_unitsInRule MO_askThing MO_acts MO_undone MO_laid MO_heards MO_time)), ((aMO 1), .inl (cB, 1600, .inl MO_text))] H → va_D A [(MO, .inr (12, oX12 aMO MO_taped MO_size MO_faultKind MO_faultPlace w8_MO_6 w259_MO_7 MO_token w259_MO_9 MO_name MO_bank MO_rb MO_codes MO_within MO_piled MO_unitsInRule MO_askThing MO_acts MO_undone MO_laid MO_heards MO_time)), ((aMO 1), .inl (cB, 1600, .inl MO_text))] → va_S A s.heap H locs → lv_has ls 3 [(1, .int r63), (0, .ref MO)] → W p l e ({ frames := 1, cells := 0, slots := 0, locals := 22 } : Room) s m ([.ref MO] : List Value).toArray below meth c H locs 0 0 Q (F0 m 350 ls [.ref MO]) := by
                      intro H locs ls hP hD hS hl
                      refine lv_iconst (v := 1) hx hb dX12_goOn_350 (by decide) ?_
                      refine lv_goto (tgt := 355) hx hb dX12_goOn_351 (by decide) ?_
                      refine va_put (D := D) (ci := 12) (v := .int 1) (ty := tyX12 8) (C := RX12) (T := TX12) (N := 71) hx hb hts iw_X12_goOn_X12 tyX12 tyX12_ok nmX12 hown hK hP hD hS 0 rfl rfl 8 (by decide) (hts (.fieldLink RX12 223 "SoldHouseModel" "token" "I") (List.mem_of_getElem? (i := 4) rfl)) (fun _ h9 => h9) rfl (by decide +kernel) rfl rfl (Nat.le_of_ble_eq_true rfl) dX12_goOn_355 (fun H locs hP hD hS => ?_)
                      replace hP : va_P D classes [(MO, .inr (12, oX12 aMO MO_taped MO_size MO_faultKind MO_faultPlace w8_MO_6 w259_MO_7 1 w259_MO_9 MO_name MO_bank MO_rb MO_codes MO_within MO_piled MO_unitsInRule MO_askThing MO_acts MO_undone MO_laid MO_heards MO_time)), ((aMO 1), .inl (cB, 1600, .inl MO_text))] H := hP
                      replace hD : va_D A [(MO, .inr (12, oX12 aMO MO_taped MO_size MO_faultKind MO_faultPlace w8_MO_6 w259_MO_7 1 w259_MO_9 MO_name MO_bank MO_rb MO_codes MO_within MO_piled MO_unitsInRule MO_askThing MO_acts MO_undone MO_laid MO_heards MO_time)), ((aMO 1), .inl (cB, 1600, .inl MO_text))] := hD
                      refine lv_goto (tgt := 377) hx hb dX12_goOn_358 (by decide) ?_
                      exact up _ _ _ (W.vret hx hb hr (fun t ht hW => ⟨⟨(), rfl, trivial, ⟨w8_MO_6, w259_MO_7, 1, w259_MO_9, MO_name, (zB_w bx85t_w8_MO_6 (by decide) (by decide)), bw259_MO_7_k259, (zB_w (show zB 1 1 1 from ⟨by decide, by decide⟩) (by decide) (by decide)), (zM_2 (b_MO_end).2 (by have h9_0 := k8_a; have h9_1 := k58_a; have h9_2 := p63_lt; have h9_3 := (zl c85); have h9_4 := p113_no; have h9_5 := p240_no; have h9_6 := k259_d; have h9_7 := p264_lt; have h9_8 := p267_no; have h9_9 := q322; have h9_10 := ry331; have h9_11 := (show (1 : Int32).toInt = 1 from by decide); have h9_12 := (b_MO_end).1; have h9_13 := (b_MO_end).2; have h9_14 := (by85t_MO_size).1; have h9_15 := (by85t_MO_size).2; have h9_16 := (hr264).1; have h9_17 := (hr264).2; have h9_18 := (hr240_1_0).1; have h9_19 := (hr240_1_0).2; have h9_20 := (bw259_MO_7_k259).1; have h9_21 := (bw259_MO_7_k259).2; have h9_22 := (bx85t_w8_MO_6).1; have h9_23 := (bx85t_w8_MO_6).2; have h9_24 := (by331).1; have h9_25 := (by331).2; have h9_26 := (show (0 : Int32).toInt = 0 from by decide); have h9_27 := (show ((-1) : Int32).toInt = (-1) from by decide); omega)), by rw [ht]; exact hP, hD⟩⟩, hS.F ht⟩) hS.2.2 dX12_goOn_377)
                    refine lv_icmp_gt (tgt := 350) hx hb dX12_goOn_333 (by decide) (fun c333 => ?_) (fun c333 => ?_)
                    · have by333t_y331 : zB y331 5 1600 := zB_ltv (zl c333) (show zB 4 4 4 from ⟨by decide, by decide⟩) by331 (by decide)
                      exact j350 H locs ls hP hD hS (lv_sub hl [0, 1] rfl)
                    · have bx333f_y331 : zB y331 (-1599) 4 := zB_leu (zg c333) by331 (show zB 4 4 4 from ⟨by decide, by decide⟩) (by decide)
                      refine lv_aload_n hx hb dX12_goOn_336 rfl (lv_at hl 1 rfl) ?_
                      refine lv_aload_n hx hb dX12_goOn_337 rfl (lv_at hl 1 rfl) ?_
                      refine va_get (D := D) (ci := 12) (v := .int w259_MO_7) (C := RX12) (T := TX12) (N := 71) hx hb hts iw_X12_goOn_X12 hown hK hP 0 rfl rfl 7 (by decide) (hts (.fieldLink RX12 213 "SoldHouseModel" "end" "I") (List.mem_of_getElem? (i := 1) rfl)) (fun _ h9 => h9) rfl dX12_goOn_338 ?_
                      have hPc := hP.sub (ws' := [(MO, .inr (12, oX12 aMO MO_taped MO_size MO_faultKind MO_faultPlace w8_MO_6 w259_MO_7 MO_token w259_MO_9 MO_name MO_bank MO_rb MO_codes MO_within MO_piled MO_unitsInRule MO_askThing MO_acts MO_undone MO_laid MO_heards MO_time)), ((aMO 1), .inl (cB, 1600, .inl MO_text))]) [0, 1] rfl
                      refine vp_callSi (va_runV (As := [.int w259_MO_7]) (rest := [.ref MO]) ⟨hx, hb, hml, hown, hts⟩ (c_X12_sign l D cI cB cL cZ cG MO w259_MO_7 aMO MO_taped MO_size MO_faultKind MO_faultPlace w8_MO_6 w259_MO_7 MO_token w259_MO_9 MO_name MO_bank MO_rb MO_codes MO_within MO_piled MO_unitsInRule MO_askThing MO_acts MO_undone MO_laid MO_heards MO_time MO_text bw259_MO_7_k259 b_MO_taped (zB_w by85t_MO_size (by decide) (by decide)) b_MO_faultKind (zB_w bx85t_w8_MO_6 (by decide) (by decide)) bw259_MO_7_k259 b_MO_token b_MO_bank b_MO_rb b_MO_codes b_MO_within b_MO_piled b_MO_unitsInRule b_MO_askThing b_MO_acts b_MO_undone b_MO_laid b_MO_heards b_MO_time) (cwV 1 hts gX12_goOn_X12_sign rfl rfl rfl (by decide +kernel) ⟨Nat.le_of_ble_eq_true rfl, Nat.le_of_ble_eq_true rfl⟩) ⟨xr_blind, va_recv hK hP (ci := 12) (q0 := 0) rfl rfl, fun U hU hW => xr_mk hU hW hPc hK⟩ rfl rfl hl.1 rfl (lv_room (Nat.le_of_ble_eq_true rfl)) dX12_goOn_341 ⟨Nat.le_of_ble_eq_true rfl, Nat.le_of_ble_eq_true rfl⟩).run (fun r341 hr341 => ?_)
                      obtain ⟨hr341, p341_lt, p341_fn⟩ := hr341
                      clear hPc
                      have hPc := hP.sub (ws' := []) [] rfl
                      refine vp_callSi (va_runS (As := [.int r341]) (rest := [.ref MO]) ⟨hx, hb, hml, hown, hts⟩ (c_X12_isLetter l D cI cB cL cZ cG r341) (va_cwS 1 hts gX12_goOn_X12_isLetter rfl rfl rfl (by decide +kernel) ⟨Nat.le_of_ble_eq_true rfl, Nat.le_of_ble_eq_true rfl⟩) ⟨xr_blind, fun U hU hW => xr_mk hU hW hPc hK⟩ rfl rfl hl.1 rfl (lv_room (Nat.le_of_ble_eq_true rfl)) dX12_goOn_344 ⟨Nat.le_of_ble_eq_true rfl, Nat.le_of_ble_eq_true rfl⟩).run (fun r344 hr344 => ?_)
                      obtain ⟨hr344, p344_no⟩ := hr344
                      clear hPc
                      rcases hr344 with rfl | ⟨rfl, hr344_1_0⟩
                      · refine lv_if_eq (tgt := 354) hx hb dX12_goOn_347 (by decide) (fun _ => ?_) (fun c347 => absurd (by decide) c347)
                        refine lv_iconst (v := 4) hx hb dX12_goOn_354 (by decide) ?_
                        refine va_put (D := D) (ci := 12) (v := .int 4) (ty := tyX12 8) (C := RX12) (T := TX12) (N := 71) hx hb hts iw_X12_goOn_X12 tyX12 tyX12_ok nmX12 hown hK hP hD hS 0 rfl rfl 8 (by decide) (hts (.fieldLink RX12 223 "SoldHouseModel" "token" "I") (List.mem_of_getElem? (i := 4) rfl)) (fun _ h9 => h9) rfl (by decide +kernel) rfl rfl (Nat.le_of_ble_eq_true rfl) dX12_goOn_355 (fun H locs hP hD hS => ?_)
                        replace hP : va_P D classes [(MO, .inr (12, oX12 aMO MO_taped MO_size MO_faultKind MO_faultPlace w8_MO_6 w259_MO_7 4 w259_MO_9 MO_name MO_bank MO_rb MO_codes MO_within MO_piled MO_unitsInRule MO_askThing MO_acts MO_undone MO_laid MO_heards MO_time)), ((aMO 1), .inl (cB, 1600, .inl MO_text))] H := hP
                        replace hD : va_D A [(MO, .inr (12, oX12 aMO MO_taped MO_size MO_faultKind MO_faultPlace w8_MO_6 w259_MO_7 4 w259_MO_9 MO_name MO_bank MO_rb MO_codes MO_within MO_piled MO_unitsInRule MO_askThing MO_acts MO_undone MO_laid MO_heards MO_time)), ((aMO 1), .inl (cB, 1600, .inl MO_text))] := hD
                        refine lv_goto (tgt := 377) hx hb dX12_goOn_358 (by decide) ?_
                        exact up _ _ _ (W.vret hx hb hr (fun t ht hW => ⟨⟨(), rfl, trivial, ⟨w8_MO_6, w259_MO_7, 4, w259_MO_9, MO_name, (zB_w bx85t_w8_MO_6 (by decide) (by decide)), bw259_MO_7_k259, (zB_w (show zB 4 4 4 from ⟨by decide, by decide⟩) (by decide) (by decide)), (zM_2 (b_MO_end).2 (by have h9_0 := k8_a; have h9_1 := k58_a; have h9_2 := p63_lt; have h9_3 := (zl c85); have h9_4 := p113_no; have h9_5 := p240_no; have h9_6 := k259_d; have h9_7 := p264_lt; have h9_8 := p267_no; have h9_9 := q322; have h9_10 := ry331; have h9_11 := (zg c333); have h9_12 := p341_lt; have h9_13 := p344_no; have h9_14 := (show (4 : Int32).toInt = 4 from by decide); have h9_15 := (b_MO_end).1; have h9_16 := (b_MO_end).2; have h9_17 := (by85t_MO_size).1; have h9_18 := (by85t_MO_size).2; have h9_19 := (hr264).1; have h9_20 := (hr264).2; have h9_21 := (hr341).1; have h9_22 := (hr341).2; have h9_23 := (hr240_1_0).1; have h9_24 := (hr240_1_0).2; have h9_25 := (bw259_MO_7_k259).1; have h9_26 := (bw259_MO_7_k259).2; have h9_27 := (bx85t_w8_MO_6).1; have h9_28 := (bx85t_w8_MO_6).2; have h9_29 := (bx333f_y331).1; have h9_30 := (bx333f_y331).2; have h9_31 := (show (0 : Int32).toInt = 0 from by decide); have h9_32 := (show (1 : Int32).toInt = 1 from by decide); have h9_33 := (show ((-1) : Int32).toInt = (-1) from by decide); omega)), by rw [ht]; exact hP, hD⟩⟩, hS.F ht⟩) hS.2.2 dX12_goOn_377)
                      · refine lv_if_eq (tgt := 354) hx hb dX12_goOn_347 (by decide) (fun c347 => absurd c347 (by decide)) (fun _ => ?_)
                        exact j350 H locs ls hP hD hS (lv_sub hl [0, 1] rfl)
                  · refine lv_if_eq (tgt := 322) hx hb dX12_goOn_270 (by decide) (fun c270 => absurd c270 (by decide)) (fun _ => ?_)
                    have bh273_w259_MO_7 : zB w259_MO_7 0 1599 := ⟨(by have h9_0 := k8_a; have h9_1 := k58_a; have h9_2 := p63_lt; have h9_3 := (zl c85); have h9_4 := p113_no; have h9_5 := p240_no; have h9_6 := k259_d; have h9_7 := p264_lt; have h9_8 := p267_no; have h9_9 := (b_MO_end).1; have h9_10 := (b_MO_end).2; have h9_11 := (by85t_MO_size).1; have h9_12 := (by85t_MO_size).2; have h9_13 := (hr267_1_0).1; have h9_14 := (hr267_1_0).2; have h9_15 := (hr240_1_0).1; have h9_16 := (hr240_1_0).2; have h9_17 := (bw259_MO_7_k259).1; have h9_18 := (bw259_MO_7_k259).2; have h9_19 := (bx85t_w8_MO_6).1; have h9_20 := (bx85t_w8_MO_6).2; have h9_21 := (show (0 : Int32).toInt = 0 from by decide); have h9_22 := (show (1 : Int32).toInt = 1 from by decide); have h9_23 := (show ((-1) : Int32).toInt = (-1) from by decide); omega), (by have h9_0 := k8_a; have h9_1 := k58_a; have h9_2 := p63_lt; have h9_3 := (zl c85); have h9_4 := p113_no; have h9_5 := p240_no; have h9_6 := k259_d; have h9_7 := p264_lt; have h9_8 := p267_no; have h9_9 := (b_MO_end).1; have h9_10 := (b_MO_end).2; have h9_11 := (by85t_MO_size).1; have h9_12 := (by85t_MO_size).2; have h9_13 := (hr267_1_0).1; have h9_14 := (hr267_1_0).2; have h9_15 := (hr240_1_0).1; have h9_16 := (hr240_1_0).2; have h9_17 := (bw259_MO_7_k259).1; have h9_18 := (bw259_MO_7_k259).2; have h9_19 := (bx85t_w8_MO_6).1; have h9_20 := (bx85t_w8_MO_6).2; have h9_21 := (show (0 : Int32).toInt = 0 from by decide); have h9_22 := (show (1 : Int32).toInt = 1 from by decide); have h9_23 := (show ((-1) : Int32).toInt = (-1) from by decide); omega)⟩
                    refine lv_aload_n hx hb dX12_goOn_273 rfl (lv_at hl 1 rfl) ?_
                    refine va_get (D := D) (ci := 12) (v := .int w259_MO_7) (C := RX12) (T := TX12) (N := 71) hx hb hts iw_X12_goOn_X12 hown hK hP 0 rfl rfl 7 (by decide) (hts (.fieldLink RX12 213 "SoldHouseModel" "end" "I") (List.mem_of_getElem? (i := 1) rfl)) (fun _ h9 => h9) rfl dX12_goOn_274 ?_
                    refine lv_aload_n hx hb dX12_goOn_277 rfl (lv_at hl 1 rfl) ?_
                    refine va_get (D := D) (ci := 12) (v := .int w8_MO_6) (C := RX12) (T := TX12) (N := 71) hx hb hts iw_X12_goOn_X12 hown hK hP 0 rfl rfl 6 (by decide) (hts (.fieldLink RX12 216 "SoldHouseModel" "at" "I") (List.mem_of_getElem? (i := 2) rfl)) (fun _ h9 => h9) rfl dX12_goOn_278 ?_
                    refine lv_isub hx hb dX12_goOn_281 ?_
                    refine zi_top3 (P := fun y => y.toInt = w259_MO_7.toInt - w8_MO_6.toInt) (a := (-1599)) (b := 1599) (zB_sub bh273_w259_MO_7 bx85t_w8_MO_6 (by decide) (by decide) (by decide) (by decide)) (zL_sub bh273_w259_MO_7 bx85t_w8_MO_6 (by decide) (by decide) rfl rfl) (fun y281 ey281 by281 ry281 => ?_)
                    clear ey281
                    refine lv_iconst (v := 4) hx hb dX12_goOn_282 (by decide) ?_
                    have j309 : ∀ (H : Heap) (locs : List Loc) (ls : Array Slot) (w309_MO_9 : Int32), va_P D classes [(MO, .inr (12, oX12 aMO MO_taped MO_size MO_faultKind MO_faultPlace w8_MO_6 w259_MO_7 MO_token w309_MO_9 MO_name MO_bank MO_rb MO_codes MO_within MO_piled MO_unitsInRule MO_askThing MO_acts MO_undone MO_laid MO_heards MO_time)), ((aMO 1), .inl (cB, 1600, .inl MO_text))] H → va_D A [(MO, .inr (12, oX12 aMO MO_taped MO_size MO_faultKind MO_faultPlace w8_MO_6 w259_MO_7 MO_token w309_MO_9 MO_name MO_bank MO_rb MO_codes MO_within MO_piled MO_unitsInRule MO_askThing MO_acts MO_undone MO_laid MO_heards MO_time)), ((aMO 1), .inl (cB, 1600, .inl MO_text))] → va_S A s.heap H locs → lv_has ls 3 [(1, .int r63), (0, .ref MO)] → W p l e ({ frames := 1, cells := 0, slots := 0, locals := 22 } : Room) s m ([.ref MO] : List Value).toArray below meth c H locs 0 0 Q (F0 m 309 ls []) := by
                      intro H locs ls w309_MO_9 hP hD hS hl
                      refine lv_aload_n hx hb dX12_goOn_309 rfl (lv_at hl 1 rfl) ?_
                      refine lv_dup hx hb dX12_goOn_310 rfl ?_
                      refine va_get (D := D) (ci := 12) (v := .int w259_MO_7) (C := RX12) (T := TX12) (N := 71) hx hb hts iw_X12_goOn_X12 hown hK hP 0 rfl rfl 7 (by decide) (hts (.fieldLink RX12 213 "SoldHouseModel" "end" "I") (List.mem_of_getElem? (i := 1) rfl)) (fun _ h9 => h9) rfl dX12_goOn_311 ?_
                      refine lv_iconst (v := 1) hx hb dX12_goOn_314 (by decide) ?_
                      refine lv_iadd hx hb dX12_goOn_315 ?_
                      refine zi_top2 (P := fun y => y.toInt = w259_MO_7.toInt + 1) (a := 1) (b := 1600) (zB_add bh273_w259_MO_7 (show zB 1 1 1 from ⟨by decide, by decide⟩) (by decide) (by decide) (by decide) (by decide)) (zR_addc bh273_w259_MO_7 (by decide) (by decide) (by decide)) (fun y315 by315 ry315 => ?_)
                      refine va_put (D := D) (ci := 12) (v := .int y315) (ty := tyX12 7) (C := RX12) (T := TX12) (N := 71) hx hb hts iw_X12_goOn_X12 tyX12 tyX12_ok nmX12 hown hK hP hD hS 0 rfl rfl 7 (by decide) (hts (.fieldLink RX12 213 "SoldHouseModel" "end" "I") (List.mem_of_getElem? (i := 1) rfl)) (fun _ h9 => h9) rfl (by decide +kernel) rfl rfl (Nat.le_of_ble_eq_true rfl) dX12_goOn_316 (fun H locs hP hD hS => ?_)
                      replace hP : va_P D classes [(MO, .inr (12, oX12 aMO MO_taped MO_size MO_faultKind MO_faultPlace w8_MO_6 y315 MO_token w309_MO_9 MO_name MO_bank MO_rb MO_codes MO_within MO_piled MO_unitsInRule MO_askThing MO_acts MO_undone MO_laid MO_heards MO_time)), ((aMO 1), .inl (cB, 1600, .inl MO_text))] H := hP
                      replace hD : va_D A [(MO, .inr (12, oX12 aMO MO_taped MO_size MO_faultKind MO_faultPlace w8_MO_6 y315 MO_token w309_MO_9 MO_name MO_bank MO_rb MO_codes MO_within MO_piled MO_unitsInRule MO_askThing MO_acts MO_undone MO_laid MO_heards MO_time)), ((aMO 1), .inl (cB, 1600, .inl MO_text))] := hD
                      refine lv_goto (tgt := 259) hx hb dX12_goOn_319 (by decide) ?_
                      exact ih259 H locs ls y315 w309_MO_9 (zB_w by315 (by decide) (by decide)) (by have h9_0 := k8_a; have h9_1 := k58_a; have h9_2 := p63_lt; have h9_3 := (zl c85); have h9_4 := p113_no; have h9_5 := p240_no; have h9_6 := k259_d; have h9_7 := p264_lt; have h9_8 := p267_no; have h9_9 := ry281; have h9_10 := (b_MO_end).1; have h9_11 := (b_MO_end).2; have h9_12 := (by85t_MO_size).1; have h9_13 := (by85t_MO_size).2; have h9_14 := (hr267_1_0).1; have h9_15 := (hr267_1_0).2; have h9_16 := (hr240_1_0).1; have h9_17 := (hr240_1_0).2; have h9_18 := (bh273_w259_MO_7).1; have h9_19 := (bh273_w259_MO_7).2; have h9_20 := (bx85t_w8_MO_6).1; have h9_21 := (bx85t_w8_MO_6).2; have h9_22 := (by281).1; have h9_23 := (by281).2; have h9_24 := (by315).1; have h9_25 := (by315).2; have h9_26 := (show (0 : Int32).toInt = 0 from by decide); have h9_27 := (show (1 : Int32).toInt = 1 from by decide); have h9_28 := (show ((-1) : Int32).toInt = (-1) from by decide); omega) (zM_us (k := 1) hm259 ry315 (by decide)) hP hD hS (lv_sub hl [0, 1] rfl)
                    refine lv_icmp_ge (tgt := 309) hx hb dX12_goOn_283 (by decide) (fun c283 => ?_) (fun c283 => ?_)
                    · have by283t_y281 : zB y281 4 1599 := zB_lev (ze c283) (show zB 4 4 4 from ⟨by decide, by decide⟩) by281 (by decide)
                      exact j309 H locs ls w259_MO_9 hP hD hS (lv_sub hl [0, 1] rfl)
                    · have bx283f_y281 : zB y281 (-1599) 3 := zB_ltu (zf c283) by281 (show zB 4 4 4 from ⟨by decide, by decide⟩) (by decide)
                      refine lv_aload_n hx hb dX12_goOn_286 rfl (lv_at hl 1 rfl) ?_
                      refine lv_bipush (v := 10) hx hb dX12_goOn_287 (by decide) ?_
                      refine lv_aload_n hx hb dX12_goOn_289 rfl (lv_at hl 1 rfl) ?_
                      refine va_get (D := D) (ci := 12) (v := .int w259_MO_9) (C := RX12) (T := TX12) (N := 71) hx hb hts iw_X12_goOn_X12 hown hK hP 0 rfl rfl 9 (by decide) (hts (.fieldLink RX12 241 "SoldHouseModel" "number" "I") (List.mem_of_getElem? (i := 6) rfl)) (fun _ h9 => h9) rfl dX12_goOn_290 ?_
                      refine lv_imul hx hb dX12_goOn_293 ?_
                      refine lv_topi (fun y293 _ => ?_)
                      refine lv_aload_n hx hb dX12_goOn_294 rfl (lv_at hl 1 rfl) ?_
                      refine lv_aload_n hx hb dX12_goOn_295 rfl (lv_at hl 1 rfl) ?_
                      refine va_get (D := D) (ci := 12) (v := .int w259_MO_7) (C := RX12) (T := TX12) (N := 71) hx hb hts iw_X12_goOn_X12 hown hK hP 0 rfl rfl 7 (by decide) (hts (.fieldLink RX12 213 "SoldHouseModel" "end" "I") (List.mem_of_getElem? (i := 1) rfl)) (fun _ h9 => h9) rfl dX12_goOn_296 ?_
                      have hPc := hP.sub (ws' := [(MO, .inr (12, oX12 aMO MO_taped MO_size MO_faultKind MO_faultPlace w8_MO_6 w259_MO_7 MO_token w259_MO_9 MO_name MO_bank MO_rb MO_codes MO_within MO_piled MO_unitsInRule MO_askThing MO_acts MO_undone MO_laid MO_heards MO_time)), ((aMO 1), .inl (cB, 1600, .inl MO_text))]) [0, 1] rfl
                      refine vp_callSi (va_runV (As := [.int w259_MO_7]) (rest := [.int y293, .ref MO]) ⟨hx, hb, hml, hown, hts⟩ (c_X12_sign l D cI cB cL cZ cG MO w259_MO_7 aMO MO_taped MO_size MO_faultKind MO_faultPlace w8_MO_6 w259_MO_7 MO_token w259_MO_9 MO_name MO_bank MO_rb MO_codes MO_within MO_piled MO_unitsInRule MO_askThing MO_acts MO_undone MO_laid MO_heards MO_time MO_text (zB_w bh273_w259_MO_7 (by decide) (by decide)) b_MO_taped (zB_w by85t_MO_size (by decide) (by decide)) b_MO_faultKind (zB_w bx85t_w8_MO_6 (by decide) (by decide)) (zB_w bh273_w259_MO_7 (by decide) (by decide)) b_MO_token b_MO_bank b_MO_rb b_MO_codes b_MO_within b_MO_piled b_MO_unitsInRule b_MO_askThing b_MO_acts b_MO_undone b_MO_laid b_MO_heards b_MO_time) (cwV 1 hts gX12_goOn_X12_sign rfl rfl rfl (by decide +kernel) ⟨Nat.le_of_ble_eq_true rfl, Nat.le_of_ble_eq_true rfl⟩) ⟨xr_blind, va_recv hK hP (ci := 12) (q0 := 0) rfl rfl, fun U hU hW => xr_mk hU hW hPc hK⟩ rfl rfl hl.1 rfl (lv_room (Nat.le_of_ble_eq_true rfl)) dX12_goOn_299 ⟨Nat.le_of_ble_eq_true rfl, Nat.le_of_ble_eq_true rfl⟩).run (fun r299 hr299 => ?_)
                      obtain ⟨hr299, p299_lt, p299_fn⟩ := hr299
                      clear hPc
                      refine lv_iadd hx hb dX12_goOn_302 ?_
                      refine lv_topi (fun y302 _ => ?_)
                      refine lv_bipush (v := 48) hx hb dX12_goOn_303 (by decide) ?_
                      refine lv_isub hx hb dX12_goOn_305 ?_
                      refine lv_topi (fun y305 _ => ?_)
                      refine va_put (D := D) (ci := 12) (v := .int y305) (ty := tyX12 9) (C := RX12) (T := TX12) (N := 71) hx hb hts iw_X12_goOn_X12 tyX12 tyX12_ok nmX12 hown hK hP hD hS 0 rfl rfl 9 (by decide) (hts (.fieldLink RX12 241 "SoldHouseModel" "number" "I") (List.mem_of_getElem? (i := 6) rfl)) (fun _ h9 => h9) rfl (by decide +kernel) rfl rfl (Nat.le_of_ble_eq_true rfl) dX12_goOn_306 (fun H locs hP hD hS => ?_)
                      replace hP : va_P D classes [(MO, .inr (12, oX12 aMO MO_taped MO_size MO_faultKind MO_faultPlace w8_MO_6 w259_MO_7 MO_token y305 MO_name MO_bank MO_rb MO_codes MO_within MO_piled MO_unitsInRule MO_askThing MO_acts MO_undone MO_laid MO_heards MO_time)), ((aMO 1), .inl (cB, 1600, .inl MO_text))] H := hP
                      replace hD : va_D A [(MO, .inr (12, oX12 aMO MO_taped MO_size MO_faultKind MO_faultPlace w8_MO_6 w259_MO_7 MO_token y305 MO_name MO_bank MO_rb MO_codes MO_within MO_piled MO_unitsInRule MO_askThing MO_acts MO_undone MO_laid MO_heards MO_time)), ((aMO 1), .inl (cB, 1600, .inl MO_text))] := hD
                      exact j309 H locs ls y305 hP hD hS (lv_sub hl [0, 1] rfl)
              refine va_put (D := D) (ci := 12) (v := .int w8_MO_6) (ty := tyX12 7) (C := RX12) (T := TX12) (N := 71) hx hb hts iw_X12_goOn_X12 tyX12 tyX12_ok nmX12 hown hK hP hD hS 0 rfl rfl 7 (by decide) (hts (.fieldLink RX12 213 "SoldHouseModel" "end" "I") (List.mem_of_getElem? (i := 1) rfl)) (fun _ h9 => h9) rfl (by decide +kernel) rfl rfl (Nat.le_of_ble_eq_true rfl) dX12_goOn_256 (fun H locs hP hD hS => ?_)
              replace hP : va_P D classes [(MO, .inr (12, oX12 aMO MO_taped MO_size MO_faultKind MO_faultPlace w8_MO_6 w8_MO_6 MO_token 0 MO_name MO_bank MO_rb MO_codes MO_within MO_piled MO_unitsInRule MO_askThing MO_acts MO_undone MO_laid MO_heards MO_time)), ((aMO 1), .inl (cB, 1600, .inl MO_text))] H := hP
              replace hD : va_D A [(MO, .inr (12, oX12 aMO MO_taped MO_size MO_faultKind MO_faultPlace w8_MO_6 w8_MO_6 MO_token 0 MO_name MO_bank MO_rb MO_codes MO_within MO_piled MO_unitsInRule MO_askThing MO_acts MO_undone MO_laid MO_heards MO_time)), ((aMO 1), .inl (cB, 1600, .inl MO_text))] := hD
              exact j259 1601 H locs ls w8_MO_6 0 (zB_w bx85t_w8_MO_6 (by decide) (by decide)) (by have h9_0 := k8_a; have h9_1 := k58_a; have h9_2 := p63_lt; have h9_3 := (zl c85); have h9_4 := p113_no; have h9_5 := p240_no; have h9_6 := (show (0 : Int32).toInt = 0 from by decide); have h9_7 := (b_MO_end).1; have h9_8 := (b_MO_end).2; have h9_9 := (by85t_MO_size).1; have h9_10 := (by85t_MO_size).2; have h9_11 := (hr240_1_0).1; have h9_12 := (hr240_1_0).2; have h9_13 := (bx85t_w8_MO_6).1; have h9_14 := (bx85t_w8_MO_6).2; have h9_15 := (show (1 : Int32).toInt = 1 from by decide); have h9_16 := (show ((-1) : Int32).toInt = (-1) from by decide); omega) (zM_ui bx85t_w8_MO_6 (by decide)) hP hD hS (lv_sub hl [0, 1] rfl)
          · have j119 : ∀ (n119 : Nat) (H : Heap) (locs : List Loc) (ls : Array Slot) (w119_MO_7 : Int32), zB w119_MO_7 1 1600 → (MO_end.toInt + 1 ≤ w119_MO_7.toInt) → (1600 + 1 - w119_MO_7.toInt) ≤ (n119 : Int) → va_P D classes [(MO, .inr (12, oX12 aMO MO_taped MO_size MO_faultKind MO_faultPlace w8_MO_6 w119_MO_7 MO_token MO_number MO_name MO_bank MO_rb MO_codes MO_within MO_piled MO_unitsInRule MO_askThing MO_acts MO_undone MO_laid MO_heards MO_time)), ((aMO 1), .inl (cB, 1600, .inl MO_text))] H → va_D A [(MO, .inr (12, oX12 aMO MO_taped MO_size MO_faultKind MO_faultPlace w8_MO_6 w119_MO_7 MO_token MO_number MO_name MO_bank MO_rb MO_codes MO_within MO_piled MO_unitsInRule MO_askThing MO_acts MO_undone MO_laid MO_heards MO_time)), ((aMO 1), .inl (cB, 1600, .inl MO_text))] → va_S A s.heap H locs → lv_has ls 3 [(1, .int r63), (0, .ref MO)] → W p l e ({ frames := 1, cells := 0, slots := 0, locals := 22 } : Room) s m ([.ref MO] : List Value).toArray below meth c H locs 0 0 Q (F0 m 119 ls []) := by
              intro n119
              induction n119 with
              | zero => intro H locs ls w119_MO_7 bw119_MO_7_k119 k119_a hm119 hP hD hS hl; exact zM_u0 bw119_MO_7_k119 hm119
              | succ n119 ih119 =>
                intro H locs ls w119_MO_7 bw119_MO_7_k119 k119_a hm119 hP hD hS hl
                refine lv_aload_n hx hb dX12_goOn_119 rfl (lv_at hl 1 rfl) ?_
                refine lv_aload_n hx hb dX12_goOn_120 rfl (lv_at hl 1 rfl) ?_
                refine va_get (D := D) (ci := 12) (v := .int w119_MO_7) (C := RX12) (T := TX12) (N := 71) hx hb hts iw_X12_goOn_X12 hown hK hP 0 rfl rfl 7 (by decide) (hts (.fieldLink RX12 213 "SoldHouseModel" "end" "I") (List.mem_of_getElem? (i := 1) rfl)) (fun _ h9 => h9) rfl dX12_goOn_121 ?_
                have hPc := hP.sub (ws' := [(MO, .inr (12, oX12 aMO MO_taped MO_size MO_faultKind MO_faultPlace w8_MO_6 w119_MO_7 MO_token MO_number MO_name MO_bank MO_rb MO_codes MO_within MO_piled MO_unitsInRule MO_askThing MO_acts MO_undone MO_laid MO_heards MO_time)), ((aMO 1), .inl (cB, 1600, .inl MO_text))]) [0, 1] rfl
                refine vp_callSi (va_runV (As := [.int w119_MO_7]) (rest := []) ⟨hx, hb, hml, hown, hts⟩ (c_X12_sign l D cI cB cL cZ cG MO w119_MO_7 aMO MO_taped MO_size MO_faultKind MO_faultPlace w8_MO_6 w119_MO_7 MO_token MO_number MO_name MO_bank MO_rb MO_codes MO_within MO_piled MO_unitsInRule MO_askThing MO_acts MO_undone MO_laid MO_heards MO_time MO_text (zB_w bw119_MO_7_k119 (by decide) (by decide)) b_MO_taped (zB_w by85t_MO_size (by decide) (by decide)) b_MO_faultKind (zB_w bx85t_w8_MO_6 (by decide) (by decide)) (zB_w bw119_MO_7_k119 (by decide) (by decide)) b_MO_token b_MO_bank b_MO_rb b_MO_codes b_MO_within b_MO_piled b_MO_unitsInRule b_MO_askThing b_MO_acts b_MO_undone b_MO_laid b_MO_heards b_MO_time) (cwV 1 hts gX12_goOn_X12_sign rfl rfl rfl (by decide +kernel) ⟨Nat.le_of_ble_eq_true rfl, Nat.le_of_ble_eq_true rfl⟩) ⟨xr_blind, va_recv hK hP (ci := 12) (q0 := 0) rfl rfl, fun U hU hW => xr_mk hU hW hPc hK⟩ rfl rfl hl.1 rfl (lv_room (Nat.le_of_ble_eq_true rfl)) dX12_goOn_124 ⟨Nat.le_of_ble_eq_true rfl, Nat.le_of_ble_eq_true rfl⟩).run (fun r124 hr124 => ?_)
                obtain ⟨hr124, p124_lt, p124_fn⟩ := hr124
                clear hPc
                have hPc := hP.sub (ws' := []) [] rfl
                refine vp_callSi (va_runS (As := [.int r124]) (rest := []) ⟨hx, hb, hml, hown, hts⟩ (c_X12_isLetter l D cI cB cL cZ cG r124) (va_cwS 1 hts gX12_goOn_X12_isLetter rfl rfl rfl (by decide +kernel) ⟨Nat.le_of_ble_eq_true rfl, Nat.le_of_ble_eq_true rfl⟩) ⟨xr_blind, fun U hU hW => xr_mk hU hW hPc hK⟩ rfl rfl hl.1 rfl (lv_room (Nat.le_of_ble_eq_true rfl)) dX12_goOn_127 ⟨Nat.le_of_ble_eq_true rfl, Nat.le_of_ble_eq_true rfl⟩).run (fun r127 hr127 => ?_)
                obtain ⟨hr127, p127_no⟩ := hr127
                clear hPc
                rcases hr127 with rfl | ⟨rfl, hr127_1_0⟩
                · refine lv_if_eq (tgt := 146) hx hb dX12_goOn_130 (by decide) (fun _ => ?_) (fun c130 => absurd (by decide) c130)
                  refine lv_aload_n hx hb dX12_goOn_146 rfl (lv_at hl 1 rfl) ?_
                  refine lv_lconst (v := 0) hx hb dX12_goOn_147 (by decide) ?_
                  refine va_put (D := D) (ci := 12) (v := .long 0) (ty := tyX12 10) (C := RX12) (T := TX12) (N := 71) hx hb hts iw_X12_goOn_X12 tyX12 tyX12_ok nmX12 hown hK hP hD hS 0 rfl rfl 10 (by decide) (hts (.fieldLink RX12 230 "SoldHouseModel" "name" "J") (List.mem_of_getElem? (i := 5) rfl)) (fun _ h9 => h9) rfl (by decide +kernel) rfl rfl (Nat.le_of_ble_eq_true rfl) dX12_goOn_148 (fun H locs hP hD hS => ?_)
                  replace hP : va_P D classes [(MO, .inr (12, oX12 aMO MO_taped MO_size MO_faultKind MO_faultPlace w8_MO_6 w119_MO_7 MO_token MO_number 0 MO_bank MO_rb MO_codes MO_within MO_piled MO_unitsInRule MO_askThing MO_acts MO_undone MO_laid MO_heards MO_time)), ((aMO 1), .inl (cB, 1600, .inl MO_text))] H := hP
                  replace hD : va_D A [(MO, .inr (12, oX12 aMO MO_taped MO_size MO_faultKind MO_faultPlace w8_MO_6 w119_MO_7 MO_token MO_number 0 MO_bank MO_rb MO_codes MO_within MO_piled MO_unitsInRule MO_askThing MO_acts MO_undone MO_laid MO_heards MO_time)), ((aMO 1), .inl (cB, 1600, .inl MO_text))] := hD
                  refine lv_aload_n hx hb dX12_goOn_151 rfl (lv_at hl 1 rfl) ?_
                  refine va_get (D := D) (ci := 12) (v := .int w8_MO_6) (C := RX12) (T := TX12) (N := 71) hx hb hts iw_X12_goOn_X12 hown hK hP 0 rfl rfl 6 (by decide) (hts (.fieldLink RX12 216 "SoldHouseModel" "at" "I") (List.mem_of_getElem? (i := 2) rfl)) (fun _ h9 => h9) rfl dX12_goOn_152 ?_
                  have j156 : ∀ (n156 : Nat) (H : Heap) (locs : List Loc) (ls : Array Slot) (v156_2 : Int32) (w156_MO_10 : Int64), zB v156_2 0 1600 → (MO_end.toInt + 1 ≤ w119_MO_7.toInt) → (1600 + 1 - v156_2.toInt) ≤ (n156 : Int) → va_P D classes [(MO, .inr (12, oX12 aMO MO_taped MO_size MO_faultKind MO_faultPlace w8_MO_6 w119_MO_7 MO_token MO_number w156_MO_10 MO_bank MO_rb MO_codes MO_within MO_piled MO_unitsInRule MO_askThing MO_acts MO_undone MO_laid MO_heards MO_time)), ((aMO 1), .inl (cB, 1600, .inl MO_text))] H → va_D A [(MO, .inr (12, oX12 aMO MO_taped MO_size MO_faultKind MO_faultPlace w8_MO_6 w119_MO_7 MO_token MO_number w156_MO_10 MO_bank MO_rb MO_codes MO_within MO_piled MO_unitsInRule MO_askThing MO_acts MO_undone MO_laid MO_heards MO_time)), ((aMO 1), .inl (cB, 1600, .inl MO_text))] → va_S A s.heap H locs → lv_has ls 3 [(2, .int v156_2), (1, .int r63), (0, .ref MO)] → W p l e ({ frames := 1, cells := 0, slots := 0, locals := 22 } : Room) s m ([.ref MO] : List Value).toArray below meth c H locs 0 0 Q (F0 m 156 ls []) := by
                    intro n156
                    induction n156 with
                    | zero => intro H locs ls v156_2 w156_MO_10 bv156_2_k156 k156_a hm156 hP hD hS hl; exact zM_u0 bv156_2_k156 hm156
                    | succ n156 ih156 =>
                      intro H locs ls v156_2 w156_MO_10 bv156_2_k156 k156_a hm156 hP hD hS hl
                      refine lv_iload_n hx hb dX12_goOn_156 rfl (lv_at hl 0 rfl) ?_
                      refine lv_aload_n hx hb dX12_goOn_157 rfl (lv_at hl 2 rfl) ?_
                      refine va_get (D := D) (ci := 12) (v := .int w119_MO_7) (C := RX12) (T := TX12) (N := 71) hx hb hts iw_X12_goOn_X12 hown hK hP 0 rfl rfl 7 (by decide) (hts (.fieldLink RX12 213 "SoldHouseModel" "end" "I") (List.mem_of_getElem? (i := 1) rfl)) (fun _ h9 => h9) rfl dX12_goOn_158 ?_
                      have j199 : ∀ (H : Heap) (locs : List Loc) (ls : Array Slot), zB v156_2 1 1600 → va_P D classes [(MO, .inr (12, oX12 aMO MO_taped MO_size MO_faultKind MO_faultPlace w8_MO_6 w119_MO_7 MO_token MO_number w156_MO_10 MO_bank MO_rb MO_codes MO_within MO_piled MO_unitsInRule MO_askThing MO_acts MO_undone MO_laid MO_heards MO_time)), ((aMO 1), .inl (cB, 1600, .inl MO_text))] H → va_D A [(MO, .inr (12, oX12 aMO MO_taped MO_size MO_faultKind MO_faultPlace w8_MO_6 w119_MO_7 MO_token MO_number w156_MO_10 MO_bank MO_rb MO_codes MO_within MO_piled MO_unitsInRule MO_askThing MO_acts MO_undone MO_laid MO_heards MO_time)), ((aMO 1), .inl (cB, 1600, .inl MO_text))] → va_S A s.heap H locs → lv_has ls 3 [(2, .int v156_2), (1, .int r63), (0, .ref MO)] → W p l e ({ frames := 1, cells := 0, slots := 0, locals := 22 } : Room) s m ([.ref MO] : List Value).toArray below meth c H locs 0 0 Q (F0 m 199 ls []) := by
                        intro H locs ls bv156_2_k199 hP hD hS hl
                        refine lv_aload_n hx hb dX12_goOn_199 rfl (lv_at hl 2 rfl) ?_
                        refine lv_aload_n hx hb dX12_goOn_200 rfl (lv_at hl 2 rfl) ?_
                        refine va_get (D := D) (ci := 12) (v := .int w119_MO_7) (C := RX12) (T := TX12) (N := 71) hx hb hts iw_X12_goOn_X12 hown hK hP 0 rfl rfl 7 (by decide) (hts (.fieldLink RX12 213 "SoldHouseModel" "end" "I") (List.mem_of_getElem? (i := 1) rfl)) (fun _ h9 => h9) rfl dX12_goOn_201 ?_
                        refine lv_aload_n hx hb dX12_goOn_204 rfl (lv_at hl 2 rfl) ?_
                        refine va_get (D := D) (ci := 12) (v := .int w8_MO_6) (C := RX12) (T := TX12) (N := 71) hx hb hts iw_X12_goOn_X12 hown hK hP 0 rfl rfl 6 (by decide) (hts (.fieldLink RX12 216 "SoldHouseModel" "at" "I") (List.mem_of_getElem? (i := 2) rfl)) (fun _ h9 => h9) rfl dX12_goOn_205 ?_
                        refine lv_isub hx hb dX12_goOn_208 ?_
                        refine zi_top3 (P := fun y => y.toInt = w119_MO_7.toInt - w8_MO_6.toInt) (a := (-1598)) (b := 1600) (zB_sub bw119_MO_7_k119 bx85t_w8_MO_6 (by decide) (by decide) (by decide) (by decide)) (zL_sub bw119_MO_7_k119 bx85t_w8_MO_6 (by decide) (by decide) rfl rfl) (fun y208 ey208 by208 ry208 => ?_)
                        clear ey208
                        refine lv_bipush (v := 8) hx hb dX12_goOn_209 (by decide) ?_
                        refine lv_icmp_le (tgt := 218) hx hb dX12_goOn_211 (by decide) (fun c211 => ?_) (fun c211 => ?_)
                        · have bx211t_y208 : zB y208 (-1598) 8 := zB_leu (ze c211) by208 (show zB 8 8 8 from ⟨by decide, by decide⟩) (by decide)
                          refine lv_aload_n hx hb dX12_goOn_218 rfl (lv_at hl 2 rfl) ?_
                          refine va_get (D := D) (ci := 12) (v := .long w156_MO_10) (C := RX12) (T := TX12) (N := 71) hx hb hts iw_X12_goOn_X12 hown hK hP 0 rfl rfl 10 (by decide) (hts (.fieldLink RX12 230 "SoldHouseModel" "name" "J") (List.mem_of_getElem? (i := 5) rfl)) (fun _ h9 => h9) rfl dX12_goOn_219 ?_
                          have hPc := hP.sub (ws' := []) [] rfl
                          refine vp_callSi (va_runS (As := [.long w156_MO_10]) (rest := [.ref MO]) ⟨hx, hb, hml, hown, hts⟩ (c_X12_isKept l D cI cB cL cZ cG w156_MO_10) (va_cwS 1 hts gX12_goOn_X12_isKept rfl rfl rfl (by decide +kernel) ⟨Nat.le_of_ble_eq_true rfl, Nat.le_of_ble_eq_true rfl⟩) ⟨xr_blind, fun U hU hW => xr_mk hU hW hPc hK⟩ rfl rfl hl.1 rfl (lv_room (Nat.le_of_ble_eq_true rfl)) dX12_goOn_222 ⟨Nat.le_of_ble_eq_true rfl, Nat.le_of_ble_eq_true rfl⟩).run (fun r222 hr222 => ?_)
                          clear hPc
                          refine lv_if_eq (tgt := 232) hx hb dX12_goOn_225 (by decide) (fun c225 => ?_) (fun c225 => ?_)
                          · have be225t_r222 : zB r222 0 0 := zB_eq c225 hr222 (show zB 0 0 0 from ⟨by decide, by decide⟩) (by decide) (by decide)
                            refine lv_iconst (v := 2) hx hb dX12_goOn_232 (by decide) ?_
                            refine va_put (D := D) (ci := 12) (v := .int 2) (ty := tyX12 8) (C := RX12) (T := TX12) (N := 71) hx hb hts iw_X12_goOn_X12 tyX12 tyX12_ok nmX12 hown hK hP hD hS 0 rfl rfl 8 (by decide) (hts (.fieldLink RX12 223 "SoldHouseModel" "token" "I") (List.mem_of_getElem? (i := 4) rfl)) (fun _ h9 => h9) rfl (by decide +kernel) rfl rfl (Nat.le_of_ble_eq_true rfl) dX12_goOn_233 (fun H locs hP hD hS => ?_)
                            replace hP : va_P D classes [(MO, .inr (12, oX12 aMO MO_taped MO_size MO_faultKind MO_faultPlace w8_MO_6 w119_MO_7 2 MO_number w156_MO_10 MO_bank MO_rb MO_codes MO_within MO_piled MO_unitsInRule MO_askThing MO_acts MO_undone MO_laid MO_heards MO_time)), ((aMO 1), .inl (cB, 1600, .inl MO_text))] H := hP
                            replace hD : va_D A [(MO, .inr (12, oX12 aMO MO_taped MO_size MO_faultKind MO_faultPlace w8_MO_6 w119_MO_7 2 MO_number w156_MO_10 MO_bank MO_rb MO_codes MO_within MO_piled MO_unitsInRule MO_askThing MO_acts MO_undone MO_laid MO_heards MO_time)), ((aMO 1), .inl (cB, 1600, .inl MO_text))] := hD
                            refine lv_goto (tgt := 377) hx hb dX12_goOn_236 (by decide) ?_
                            exact up _ _ _ (W.vret hx hb hr (fun t ht hW => ⟨⟨(), rfl, trivial, ⟨w8_MO_6, w119_MO_7, 2, MO_number, w156_MO_10, (zB_w bx85t_w8_MO_6 (by decide) (by decide)), (zB_w bw119_MO_7_k119 (by decide) (by decide)), (zB_w (show zB 2 2 2 from ⟨by decide, by decide⟩) (by decide) (by decide)), (zM_2 (b_MO_end).2 (by have h9_0 := k8_a; have h9_1 := k58_a; have h9_2 := p63_lt; have h9_3 := (zl c85); have h9_4 := p113_no; have h9_5 := k119_a; have h9_6 := p124_lt; have h9_7 := p127_no; have h9_8 := k156_a; have h9_9 := ry208; have h9_10 := (ze c211); have h9_11 := (show (2 : Int32).toInt = 2 from by decide); have h9_12 := (show (8 : Int32).toInt = 8 from by decide); have h9_13 := (b_MO_end).1; have h9_14 := (b_MO_end).2; have h9_15 := (by85t_MO_size).1; have h9_16 := (by85t_MO_size).2; have h9_17 := (hr124).1; have h9_18 := (hr124).2; have h9_19 := (hr113_1_0).1; have h9_20 := (hr113_1_0).2; have h9_21 := (bw119_MO_7_k119).1; have h9_22 := (bw119_MO_7_k119).2; have h9_23 := (bx85t_w8_MO_6).1; have h9_24 := (bx85t_w8_MO_6).2; have h9_25 := (bx211t_y208).1; have h9_26 := (bx211t_y208).2; have h9_27 := (show (0 : Int32).toInt = 0 from by decide); have h9_28 := (show (1 : Int32).toInt = 1 from by decide); have h9_29 := (show ((-1) : Int32).toInt = (-1) from by decide); omega)), by rw [ht]; exact hP, hD⟩⟩, hS.F ht⟩) hS.2.2 dX12_goOn_377)
                          · have bn225f_r222 : zB r222 1 1 := zB_neL c225 hr222 (show zB 0 0 0 from ⟨by decide, by decide⟩) (by decide)
                            refine lv_iconst (v := 3) hx hb dX12_goOn_228 (by decide) ?_
                            refine lv_goto (tgt := 233) hx hb dX12_goOn_229 (by decide) ?_
                            refine va_put (D := D) (ci := 12) (v := .int 3) (ty := tyX12 8) (C := RX12) (T := TX12) (N := 71) hx hb hts iw_X12_goOn_X12 tyX12 tyX12_ok nmX12 hown hK hP hD hS 0 rfl rfl 8 (by decide) (hts (.fieldLink RX12 223 "SoldHouseModel" "token" "I") (List.mem_of_getElem? (i := 4) rfl)) (fun _ h9 => h9) rfl (by decide +kernel) rfl rfl (Nat.le_of_ble_eq_true rfl) dX12_goOn_233 (fun H locs hP hD hS => ?_)
                            replace hP : va_P D classes [(MO, .inr (12, oX12 aMO MO_taped MO_size MO_faultKind MO_faultPlace w8_MO_6 w119_MO_7 3 MO_number w156_MO_10 MO_bank MO_rb MO_codes MO_within MO_piled MO_unitsInRule MO_askThing MO_acts MO_undone MO_laid MO_heards MO_time)), ((aMO 1), .inl (cB, 1600, .inl MO_text))] H := hP
                            replace hD : va_D A [(MO, .inr (12, oX12 aMO MO_taped MO_size MO_faultKind MO_faultPlace w8_MO_6 w119_MO_7 3 MO_number w156_MO_10 MO_bank MO_rb MO_codes MO_within MO_piled MO_unitsInRule MO_askThing MO_acts MO_undone MO_laid MO_heards MO_time)), ((aMO 1), .inl (cB, 1600, .inl MO_text))] := hD
                            refine lv_goto (tgt := 377) hx hb dX12_goOn_236 (by decide) ?_
                            exact up _ _ _ (W.vret hx hb hr (fun t ht hW => ⟨⟨(), rfl, trivial, ⟨w8_MO_6, w119_MO_7, 3, MO_number, w156_MO_10, (zB_w bx85t_w8_MO_6 (by decide) (by decide)), (zB_w bw119_MO_7_k119 (by decide) (by decide)), (zB_w (show zB 3 3 3 from ⟨by decide, by decide⟩) (by decide) (by decide)), (zM_2 (b_MO_end).2 (by have h9_0 := k8_a; have h9_1 := k58_a; have h9_2 := p63_lt; have h9_3 := (zl c85); have h9_4 := p113_no; have h9_5 := k119_a; have h9_6 := p124_lt; have h9_7 := p127_no; have h9_8 := k156_a; have h9_9 := ry208; have h9_10 := (ze c211); have h9_11 := (show (3 : Int32).toInt = 3 from by decide); have h9_12 := (show (8 : Int32).toInt = 8 from by decide); have h9_13 := (b_MO_end).1; have h9_14 := (b_MO_end).2; have h9_15 := (by85t_MO_size).1; have h9_16 := (by85t_MO_size).2; have h9_17 := (hr124).1; have h9_18 := (hr124).2; have h9_19 := (hr113_1_0).1; have h9_20 := (hr113_1_0).2; have h9_21 := (bw119_MO_7_k119).1; have h9_22 := (bw119_MO_7_k119).2; have h9_23 := (bx85t_w8_MO_6).1; have h9_24 := (bx85t_w8_MO_6).2; have h9_25 := (bx211t_y208).1; have h9_26 := (bx211t_y208).2; have h9_27 := (show (0 : Int32).toInt = 0 from by decide); have h9_28 := (show (1 : Int32).toInt = 1 from by decide); have h9_29 := (show ((-1) : Int32).toInt = (-1) from by decide); omega)), by rw [ht]; exact hP, hD⟩⟩, hS.F ht⟩) hS.2.2 dX12_goOn_377)
                        · have by211f_y208 : zB y208 9 1600 := zB_ltv (zf c211) (show zB 8 8 8 from ⟨by decide, by decide⟩) by208 (by decide)
                          refine lv_iconst (v := 1) hx hb dX12_goOn_214 (by decide) ?_
                          refine lv_goto (tgt := 233) hx hb dX12_goOn_215 (by decide) ?_
                          refine va_put (D := D) (ci := 12) (v := .int 1) (ty := tyX12 8) (C := RX12) (T := TX12) (N := 71) hx hb hts iw_X12_goOn_X12 tyX12 tyX12_ok nmX12 hown hK hP hD hS 0 rfl rfl 8 (by decide) (hts (.fieldLink RX12 223 "SoldHouseModel" "token" "I") (List.mem_of_getElem? (i := 4) rfl)) (fun _ h9 => h9) rfl (by decide +kernel) rfl rfl (Nat.le_of_ble_eq_true rfl) dX12_goOn_233 (fun H locs hP hD hS => ?_)
                          replace hP : va_P D classes [(MO, .inr (12, oX12 aMO MO_taped MO_size MO_faultKind MO_faultPlace w8_MO_6 w119_MO_7 1 MO_number w156_MO_10 MO_bank MO_rb MO_codes MO_within MO_piled MO_unitsInRule MO_askThing MO_acts MO_undone MO_laid MO_heards MO_time)), ((aMO 1), .inl (cB, 1600, .inl MO_text))] H := hP
                          replace hD : va_D A [(MO, .inr (12, oX12 aMO MO_taped MO_size MO_faultKind MO_faultPlace w8_MO_6 w119_MO_7 1 MO_number w156_MO_10 MO_bank MO_rb MO_codes MO_within MO_piled MO_unitsInRule MO_askThing MO_acts MO_undone MO_laid MO_heards MO_time)), ((aMO 1), .inl (cB, 1600, .inl MO_text))] := hD
                          refine lv_goto (tgt := 377) hx hb dX12_goOn_236 (by decide) ?_
                          exact up _ _ _ (W.vret hx hb hr (fun t ht hW => ⟨⟨(), rfl, trivial, ⟨w8_MO_6, w119_MO_7, 1, MO_number, w156_MO_10, (zB_w bx85t_w8_MO_6 (by decide) (by decide)), (zB_w bw119_MO_7_k119 (by decide) (by decide)), (zB_w (show zB 1 1 1 from ⟨by decide, by decide⟩) (by decide) (by decide)), (zM_2 (b_MO_end).2 (by have h9_0 := k8_a; have h9_1 := k58_a; have h9_2 := p63_lt; have h9_3 := (zl c85); have h9_4 := p113_no; have h9_5 := k119_a; have h9_6 := p124_lt; have h9_7 := p127_no; have h9_8 := k156_a; have h9_9 := ry208; have h9_10 := (zf c211); have h9_11 := (show (1 : Int32).toInt = 1 from by decide); have h9_12 := (show (8 : Int32).toInt = 8 from by decide); have h9_13 := (b_MO_end).1; have h9_14 := (b_MO_end).2; have h9_15 := (by85t_MO_size).1; have h9_16 := (by85t_MO_size).2; have h9_17 := (hr124).1; have h9_18 := (hr124).2; have h9_19 := (hr113_1_0).1; have h9_20 := (hr113_1_0).2; have h9_21 := (bw119_MO_7_k119).1; have h9_22 := (bw119_MO_7_k119).2; have h9_23 := (bx85t_w8_MO_6).1; have h9_24 := (bx85t_w8_MO_6).2; have h9_25 := (by211f_y208).1; have h9_26 := (by211f_y208).2; have h9_27 := (show (0 : Int32).toInt = 0 from by decide); have h9_28 := (show ((-1) : Int32).toInt = (-1) from by decide); omega)), by rw [ht]; exact hP, hD⟩⟩, hS.F ht⟩) hS.2.2 dX12_goOn_377)
                      refine lv_icmp_ge (tgt := 199) hx hb dX12_goOn_161 (by decide) (fun c161 => ?_) (fun c161 => ?_)
                      · have by161t_v156_2 : zB v156_2 1 1600 := zB_lev (ze c161) bw119_MO_7_k119 bv156_2_k156 (by decide)
                        exact j199 H locs ls by161t_v156_2 hP hD hS (lv_sub hl [0, 1, 2] rfl)
                      · have bx161f_v156_2 : zB v156_2 0 1599 := zB_ltu (zf c161) bv156_2_k156 bw119_MO_7_k119 (by decide)
                        refine lv_iload_n hx hb dX12_goOn_164 rfl (lv_at hl 0 rfl) ?_
                        refine lv_aload_n hx hb dX12_goOn_165 rfl (lv_at hl 2 rfl) ?_
                        refine va_get (D := D) (ci := 12) (v := .int w8_MO_6) (C := RX12) (T := TX12) (N := 71) hx hb hts iw_X12_goOn_X12 hown hK hP 0 rfl rfl 6 (by decide) (hts (.fieldLink RX12 216 "SoldHouseModel" "at" "I") (List.mem_of_getElem? (i := 2) rfl)) (fun _ h9 => h9) rfl dX12_goOn_166 ?_
                        refine lv_bipush (v := 8) hx hb dX12_goOn_169 (by decide) ?_
                        refine lv_iadd hx hb dX12_goOn_171 ?_
                        refine zi_top2 (P := fun y => y.toInt = w8_MO_6.toInt + 8) (a := 8) (b := 1607) (zB_add bx85t_w8_MO_6 (show zB 8 8 8 from ⟨by decide, by decide⟩) (by decide) (by decide) (by decide) (by decide)) (zR_addc bx85t_w8_MO_6 (by decide) (by decide) (by decide)) (fun y171 by171 ry171 => ?_)
                        refine lv_icmp_ge (tgt := 199) hx hb dX12_goOn_172 (by decide) (fun c172 => ?_) (fun c172 => ?_)
                        · have bx172t_y171 : zB y171 8 1599 := zB_leu (ze c172) by171 bx161f_v156_2 (by decide)
                          have bzx172t_w8_MO_6 : zB w8_MO_6 0 1591 := zB_meet (zB_bk (a := 0) (b := 1591) bx172t_y171 ry171 (by decide) (by decide)) bx85t_w8_MO_6 (by decide) (by decide)
                          have bfzx172t_y73 : zB y73 1 1592 := zB_meet (zB_fw (a := 1) (b := 1592) bzx172t_w8_MO_6 ry73 (by decide) (by decide)) bfx85t_y73 (by decide) (by decide)
                          have by172t_v156_2 : zB v156_2 8 1599 := zB_lev (ze c172) bx172t_y171 bx161f_v156_2 (by decide)
                          exact j199 H locs ls (zB_w by172t_v156_2 (by decide) (by decide)) hP hD hS (lv_sub hl [0, 1, 2] rfl)
                        · refine lv_aload_n hx hb dX12_goOn_175 rfl (lv_at hl 2 rfl) ?_
                          refine lv_aload_n hx hb dX12_goOn_176 rfl (lv_at hl 2 rfl) ?_
                          refine va_get (D := D) (ci := 12) (v := .long w156_MO_10) (C := RX12) (T := TX12) (N := 71) hx hb hts iw_X12_goOn_X12 hown hK hP 0 rfl rfl 10 (by decide) (hts (.fieldLink RX12 230 "SoldHouseModel" "name" "J") (List.mem_of_getElem? (i := 5) rfl)) (fun _ h9 => h9) rfl dX12_goOn_177 ?_
                          refine lv_bipush (v := 8) hx hb dX12_goOn_180 (by decide) ?_
                          refine lv_lshl hx hb dX12_goOn_182 rfl ?_
                          refine lv_topl (fun y182 _ => ?_)
                          refine lv_aload_n hx hb dX12_goOn_183 rfl (lv_at hl 2 rfl) ?_
                          refine lv_iload_n hx hb dX12_goOn_184 rfl (lv_at hl 0 rfl) ?_
                          have hPc := hP.sub (ws' := [(MO, .inr (12, oX12 aMO MO_taped MO_size MO_faultKind MO_faultPlace w8_MO_6 w119_MO_7 MO_token MO_number w156_MO_10 MO_bank MO_rb MO_codes MO_within MO_piled MO_unitsInRule MO_askThing MO_acts MO_undone MO_laid MO_heards MO_time)), ((aMO 1), .inl (cB, 1600, .inl MO_text))]) [0, 1] rfl
                          refine vp_callSi (va_runV (As := [.int v156_2]) (rest := [.long y182, .ref MO]) ⟨hx, hb, hml, hown, hts⟩ (c_X12_sign l D cI cB cL cZ cG MO v156_2 aMO MO_taped MO_size MO_faultKind MO_faultPlace w8_MO_6 w119_MO_7 MO_token MO_number w156_MO_10 MO_bank MO_rb MO_codes MO_within MO_piled MO_unitsInRule MO_askThing MO_acts MO_undone MO_laid MO_heards MO_time MO_text (zB_w bx161f_v156_2 (by decide) (by decide)) b_MO_taped (zB_w by85t_MO_size (by decide) (by decide)) b_MO_faultKind (zB_w bx85t_w8_MO_6 (by decide) (by decide)) (zB_w bw119_MO_7_k119 (by decide) (by decide)) b_MO_token b_MO_bank b_MO_rb b_MO_codes b_MO_within b_MO_piled b_MO_unitsInRule b_MO_askThing b_MO_acts b_MO_undone b_MO_laid b_MO_heards b_MO_time) (cwV 1 hts gX12_goOn_X12_sign rfl rfl rfl (by decide +kernel) ⟨Nat.le_of_ble_eq_true rfl, Nat.le_of_ble_eq_true rfl⟩) ⟨xr_blind, va_recv hK hP (ci := 12) (q0 := 0) rfl rfl, fun U hU hW => xr_mk hU hW hPc hK⟩ rfl rfl hl.1 rfl (lv_room (Nat.le_of_ble_eq_true rfl)) dX12_goOn_185 ⟨Nat.le_of_ble_eq_true rfl, Nat.le_of_ble_eq_true rfl⟩).run (fun r185 hr185 => ?_)
                          obtain ⟨hr185, p185_lt, p185_fn⟩ := hr185
                          clear hPc
                          refine lv_i2l hx hb dX12_goOn_188 rfl ?_
                          refine lv_topl (fun y188 _ => ?_)
                          refine lv_lor hx hb dX12_goOn_189 ?_
                          refine lv_topl (fun y189 _ => ?_)
                          refine va_put (D := D) (ci := 12) (v := .long y189) (ty := tyX12 10) (C := RX12) (T := TX12) (N := 71) hx hb hts iw_X12_goOn_X12 tyX12 tyX12_ok nmX12 hown hK hP hD hS 0 rfl rfl 10 (by decide) (hts (.fieldLink RX12 230 "SoldHouseModel" "name" "J") (List.mem_of_getElem? (i := 5) rfl)) (fun _ h9 => h9) rfl (by decide +kernel) rfl rfl (Nat.le_of_ble_eq_true rfl) dX12_goOn_190 (fun H locs hP hD hS => ?_)
                          replace hP : va_P D classes [(MO, .inr (12, oX12 aMO MO_taped MO_size MO_faultKind MO_faultPlace w8_MO_6 w119_MO_7 MO_token MO_number y189 MO_bank MO_rb MO_codes MO_within MO_piled MO_unitsInRule MO_askThing MO_acts MO_undone MO_laid MO_heards MO_time)), ((aMO 1), .inl (cB, 1600, .inl MO_text))] H := hP
                          replace hD : va_D A [(MO, .inr (12, oX12 aMO MO_taped MO_size MO_faultKind MO_faultPlace w8_MO_6 w119_MO_7 MO_token MO_number y189 MO_bank MO_rb MO_codes MO_within MO_piled MO_unitsInRule MO_askThing MO_acts MO_undone MO_laid MO_heards MO_time)), ((aMO 1), .inl (cB, 1600, .inl MO_text))] := hD
                          obtain ⟨y193, by193, ry193, ey193⟩ := zi_inc (x := v156_2) (k := 1) (a := 1) (b := 1600) bx161f_v156_2 (by decide) (by decide) (by decide) (by decide) (by decide)
                          refine lv_iinc (v := y193) (lv' := [(2, .int y193), (1, .int r63), (0, .ref MO)]) hx hb dX12_goOn_193 hl (k := 0) rfl ey193 (by decide) rfl (fun ls hl => ?_)
                          refine lv_goto (tgt := 156) hx hb dX12_goOn_196 (by decide) ?_
                          exact ih156 H locs ls y193 y189 (zB_w by193 (by decide) (by decide)) (by have h9_0 := k8_a; have h9_1 := k58_a; have h9_2 := p63_lt; have h9_3 := (zl c85); have h9_4 := p113_no; have h9_5 := k119_a; have h9_6 := p124_lt; have h9_7 := p127_no; have h9_8 := k156_a; have h9_9 := (zf c161); have h9_10 := (zf c172); have h9_11 := p185_lt; have h9_12 := ry193; have h9_13 := (b_MO_end).1; have h9_14 := (b_MO_end).2; have h9_15 := (by85t_MO_size).1; have h9_16 := (by85t_MO_size).2; have h9_17 := (hr124).1; have h9_18 := (hr124).2; have h9_19 := (hr185).1; have h9_20 := (hr185).2; have h9_21 := (hr113_1_0).1; have h9_22 := (hr113_1_0).2; have h9_23 := (bx161f_v156_2).1; have h9_24 := (bx161f_v156_2).2; have h9_25 := (bw119_MO_7_k119).1; have h9_26 := (bw119_MO_7_k119).2; have h9_27 := (bx85t_w8_MO_6).1; have h9_28 := (bx85t_w8_MO_6).2; have h9_29 := (by171).1; have h9_30 := (by171).2; have h9_31 := (by193).1; have h9_32 := (by193).2; have h9_33 := (show (0 : Int32).toInt = 0 from by decide); have h9_34 := (show (1 : Int32).toInt = 1 from by decide); have h9_35 := (show ((-1) : Int32).toInt = (-1) from by decide); omega) (zM_us (k := 1) hm156 ry193 (by decide)) hP hD hS (lv_sub hl [0, 1, 2] rfl)
                  refine lv_istore_n (lv' := [(2, .int w8_MO_6), (1, .int r63), (0, .ref MO)]) hx hb dX12_goOn_155 rfl hl (by decide) rfl (fun ls hl => ?_)
                  exact j156 1601 H locs ls w8_MO_6 0 (zB_w bx85t_w8_MO_6 (by decide) (by decide)) (by have h9_0 := k8_a; have h9_1 := k58_a; have h9_2 := p63_lt; have h9_3 := (zl c85); have h9_4 := p113_no; have h9_5 := k119_a; have h9_6 := p124_lt; have h9_7 := p127_no; have h9_8 := (b_MO_end).1; have h9_9 := (b_MO_end).2; have h9_10 := (by85t_MO_size).1; have h9_11 := (by85t_MO_size).2; have h9_12 := (hr124).1; have h9_13 := (hr124).2; have h9_14 := (hr113_1_0).1; have h9_15 := (hr113_1_0).2; have h9_16 := (bw119_MO_7_k119).1; have h9_17 := (bw119_MO_7_k119).2; have h9_18 := (bx85t_w8_MO_6).1; have h9_19 := (bx85t_w8_MO_6).2; have h9_20 := (show (0 : Int32).toInt = 0 from by decide); have h9_21 := (show (1 : Int32).toInt = 1 from by decide); have h9_22 := (show ((-1) : Int32).toInt = (-1) from by decide); omega) (zM_ui bx85t_w8_MO_6 (by decide)) hP hD hS (lv_sub hl [0, 1, 2] rfl)
                · refine lv_if_eq (tgt := 146) hx hb dX12_goOn_130 (by decide) (fun c130 => absurd c130 (by decide)) (fun _ => ?_)
                  have bh133_w119_MO_7 : zB w119_MO_7 1 1599 := ⟨(by have h9_0 := k8_a; have h9_1 := k58_a; have h9_2 := p63_lt; have h9_3 := (zl c85); have h9_4 := p113_no; have h9_5 := k119_a; have h9_6 := p124_lt; have h9_7 := p127_no; have h9_8 := (b_MO_end).1; have h9_9 := (b_MO_end).2; have h9_10 := (by85t_MO_size).1; have h9_11 := (by85t_MO_size).2; have h9_12 := (hr127_1_0).1; have h9_13 := (hr127_1_0).2; have h9_14 := (hr113_1_0).1; have h9_15 := (hr113_1_0).2; have h9_16 := (bw119_MO_7_k119).1; have h9_17 := (bw119_MO_7_k119).2; have h9_18 := (bx85t_w8_MO_6).1; have h9_19 := (bx85t_w8_MO_6).2; have h9_20 := (show (0 : Int32).toInt = 0 from by decide); have h9_21 := (show (1 : Int32).toInt = 1 from by decide); have h9_22 := (show ((-1) : Int32).toInt = (-1) from by decide); omega), (by have h9_0 := k8_a; have h9_1 := k58_a; have h9_2 := p63_lt; have h9_3 := (zl c85); have h9_4 := p113_no; have h9_5 := k119_a; have h9_6 := p124_lt; have h9_7 := p127_no; have h9_8 := (b_MO_end).1; have h9_9 := (b_MO_end).2; have h9_10 := (by85t_MO_size).1; have h9_11 := (by85t_MO_size).2; have h9_12 := (hr127_1_0).1; have h9_13 := (hr127_1_0).2; have h9_14 := (hr113_1_0).1; have h9_15 := (hr113_1_0).2; have h9_16 := (bw119_MO_7_k119).1; have h9_17 := (bw119_MO_7_k119).2; have h9_18 := (bx85t_w8_MO_6).1; have h9_19 := (bx85t_w8_MO_6).2; have h9_20 := (show (0 : Int32).toInt = 0 from by decide); have h9_21 := (show (1 : Int32).toInt = 1 from by decide); have h9_22 := (show ((-1) : Int32).toInt = (-1) from by decide); omega)⟩
                  refine lv_aload_n hx hb dX12_goOn_133 rfl (lv_at hl 1 rfl) ?_
                  refine lv_dup hx hb dX12_goOn_134 rfl ?_
                  refine va_get (D := D) (ci := 12) (v := .int w119_MO_7) (C := RX12) (T := TX12) (N := 71) hx hb hts iw_X12_goOn_X12 hown hK hP 0 rfl rfl 7 (by decide) (hts (.fieldLink RX12 213 "SoldHouseModel" "end" "I") (List.mem_of_getElem? (i := 1) rfl)) (fun _ h9 => h9) rfl dX12_goOn_135 ?_
                  refine lv_iconst (v := 1) hx hb dX12_goOn_138 (by decide) ?_
                  refine lv_iadd hx hb dX12_goOn_139 ?_
                  refine zi_top2 (P := fun y => y.toInt = w119_MO_7.toInt + 1) (a := 2) (b := 1600) (zB_add bh133_w119_MO_7 (show zB 1 1 1 from ⟨by decide, by decide⟩) (by decide) (by decide) (by decide) (by decide)) (zR_addc bh133_w119_MO_7 (by decide) (by decide) (by decide)) (fun y139 by139 ry139 => ?_)
                  refine va_put (D := D) (ci := 12) (v := .int y139) (ty := tyX12 7) (C := RX12) (T := TX12) (N := 71) hx hb hts iw_X12_goOn_X12 tyX12 tyX12_ok nmX12 hown hK hP hD hS 0 rfl rfl 7 (by decide) (hts (.fieldLink RX12 213 "SoldHouseModel" "end" "I") (List.mem_of_getElem? (i := 1) rfl)) (fun _ h9 => h9) rfl (by decide +kernel) rfl rfl (Nat.le_of_ble_eq_true rfl) dX12_goOn_140 (fun H locs hP hD hS => ?_)
                  replace hP : va_P D classes [(MO, .inr (12, oX12 aMO MO_taped MO_size MO_faultKind MO_faultPlace w8_MO_6 y139 MO_token MO_number MO_name MO_bank MO_rb MO_codes MO_within MO_piled MO_unitsInRule MO_askThing MO_acts MO_undone MO_laid MO_heards MO_time)), ((aMO 1), .inl (cB, 1600, .inl MO_text))] H := hP
                  replace hD : va_D A [(MO, .inr (12, oX12 aMO MO_taped MO_size MO_faultKind MO_faultPlace w8_MO_6 y139 MO_token MO_number MO_name MO_bank MO_rb MO_codes MO_within MO_piled MO_unitsInRule MO_askThing MO_acts MO_undone MO_laid MO_heards MO_time)), ((aMO 1), .inl (cB, 1600, .inl MO_text))] := hD
                  refine lv_goto (tgt := 119) hx hb dX12_goOn_143 (by decide) ?_
                  exact ih119 H locs ls y139 (zB_w by139 (by decide) (by decide)) (by have h9_0 := k8_a; have h9_1 := k58_a; have h9_2 := p63_lt; have h9_3 := (zl c85); have h9_4 := p113_no; have h9_5 := k119_a; have h9_6 := p124_lt; have h9_7 := p127_no; have h9_8 := (b_MO_end).1; have h9_9 := (b_MO_end).2; have h9_10 := (by85t_MO_size).1; have h9_11 := (by85t_MO_size).2; have h9_12 := (hr127_1_0).1; have h9_13 := (hr127_1_0).2; have h9_14 := (hr113_1_0).1; have h9_15 := (hr113_1_0).2; have h9_16 := (bh133_w119_MO_7).1; have h9_17 := (bh133_w119_MO_7).2; have h9_18 := (bx85t_w8_MO_6).1; have h9_19 := (bx85t_w8_MO_6).2; have h9_20 := (by139).1; have h9_21 := (by139).2; have h9_22 := (show (0 : Int32).toInt = 0 from by decide); have h9_23 := (show (1 : Int32).toInt = 1 from by decide); have h9_24 := (show ((-1) : Int32).toInt = (-1) from by decide); omega) (zM_us (k := 1) hm119 ry139 (by decide)) hP hD hS (lv_sub hl [0, 1] rfl)
            refine lv_if_eq (tgt := 239) hx hb dX12_goOn_116 (by decide) (fun c116 => absurd c116 (by decide)) (fun _ => ?_)
            exact j119 1600 H locs ls y73 bfx85t_y73 (by have h9_0 := k8_a; have h9_1 := k58_a; have h9_2 := p63_lt; have h9_3 := (zl c85); have h9_4 := p113_no; have h9_5 := (b_MO_end).1; have h9_6 := (b_MO_end).2; have h9_7 := (by85t_MO_size).1; have h9_8 := (by85t_MO_size).2; have h9_9 := (hr113_1_0).1; have h9_10 := (hr113_1_0).2; have h9_11 := (bx85t_w8_MO_6).1; have h9_12 := (bx85t_w8_MO_6).2; have h9_13 := (bfx85t_y73).1; have h9_14 := (bfx85t_y73).2; have h9_15 := (show (0 : Int32).toInt = 0 from by decide); have h9_16 := (show (1 : Int32).toInt = 1 from by decide); have h9_17 := (show ((-1) : Int32).toInt = (-1) from by decide); omega) (zM_ui bfx85t_y73 (by decide)) hP hD hS (lv_sub hl [0, 1] rfl)
        · refine lv_aload_n hx hb dX12_goOn_88 rfl (lv_at hl 1 rfl) ?_
          refine lv_iconst (v := 0) hx hb dX12_goOn_89 (by decide) ?_
          refine va_put (D := D) (ci := 12) (v := .int 0) (ty := tyX12 8) (C := RX12) (T := TX12) (N := 71) hx hb hts iw_X12_goOn_X12 tyX12 tyX12_ok nmX12 hown hK hP hD hS 0 rfl rfl 8 (by decide) (hts (.fieldLink RX12 223 "SoldHouseModel" "token" "I") (List.mem_of_getElem? (i := 4) rfl)) (fun _ h9 => h9) rfl (by decide +kernel) rfl rfl (Nat.le_of_ble_eq_true rfl) dX12_goOn_90 (fun H locs hP hD hS => ?_)
          replace hP : va_P D classes [(MO, .inr (12, oX12 aMO MO_taped MO_size MO_faultKind MO_faultPlace w8_MO_6 y73 0 MO_number MO_name MO_bank MO_rb MO_codes MO_within MO_piled MO_unitsInRule MO_askThing MO_acts MO_undone MO_laid MO_heards MO_time)), ((aMO 1), .inl (cB, 1600, .inl MO_text))] H := hP
          replace hD : va_D A [(MO, .inr (12, oX12 aMO MO_taped MO_size MO_faultKind MO_faultPlace w8_MO_6 y73 0 MO_number MO_name MO_bank MO_rb MO_codes MO_within MO_piled MO_unitsInRule MO_askThing MO_acts MO_undone MO_laid MO_heards MO_time)), ((aMO 1), .inl (cB, 1600, .inl MO_text))] := hD
          refine lv_aload_n hx hb dX12_goOn_93 rfl (lv_at hl 1 rfl) ?_
          refine lv_aload_n hx hb dX12_goOn_94 rfl (lv_at hl 1 rfl) ?_
          refine va_get (D := D) (ci := 12) (v := .int MO_size) (C := RX12) (T := TX12) (N := 71) hx hb hts iw_X12_goOn_X12 hown hK hP 0 rfl rfl 3 (by decide) (hts (.fieldLink RX12 173 "SoldHouseModel" "size" "I") (List.mem_of_getElem? (i := 3) rfl)) (fun _ h9 => h9) rfl dX12_goOn_95 ?_
          refine va_put (D := D) (ci := 12) (v := .int MO_size) (ty := tyX12 6) (C := RX12) (T := TX12) (N := 71) hx hb hts iw_X12_goOn_X12 tyX12 tyX12_ok nmX12 hown hK hP hD hS 0 rfl rfl 6 (by decide) (hts (.fieldLink RX12 216 "SoldHouseModel" "at" "I") (List.mem_of_getElem? (i := 2) rfl)) (fun _ h9 => h9) rfl (by decide +kernel) rfl rfl (Nat.le_of_ble_eq_true rfl) dX12_goOn_98 (fun H locs hP hD hS => ?_)
          replace hP : va_P D classes [(MO, .inr (12, oX12 aMO MO_taped MO_size MO_faultKind MO_faultPlace MO_size y73 0 MO_number MO_name MO_bank MO_rb MO_codes MO_within MO_piled MO_unitsInRule MO_askThing MO_acts MO_undone MO_laid MO_heards MO_time)), ((aMO 1), .inl (cB, 1600, .inl MO_text))] H := hP
          replace hD : va_D A [(MO, .inr (12, oX12 aMO MO_taped MO_size MO_faultKind MO_faultPlace MO_size y73 0 MO_number MO_name MO_bank MO_rb MO_codes MO_within MO_piled MO_unitsInRule MO_askThing MO_acts MO_undone MO_laid MO_heards MO_time)), ((aMO 1), .inl (cB, 1600, .inl MO_text))] := hD
          refine lv_aload_n hx hb dX12_goOn_101 rfl (lv_at hl 1 rfl) ?_
          refine lv_aload_n hx hb dX12_goOn_102 rfl (lv_at hl 1 rfl) ?_
          refine va_get (D := D) (ci := 12) (v := .int MO_size) (C := RX12) (T := TX12) (N := 71) hx hb hts iw_X12_goOn_X12 hown hK hP 0 rfl rfl 3 (by decide) (hts (.fieldLink RX12 173 "SoldHouseModel" "size" "I") (List.mem_of_getElem? (i := 3) rfl)) (fun _ h9 => h9) rfl dX12_goOn_103 ?_
          refine va_put (D := D) (ci := 12) (v := .int MO_size) (ty := tyX12 7) (C := RX12) (T := TX12) (N := 71) hx hb hts iw_X12_goOn_X12 tyX12 tyX12_ok nmX12 hown hK hP hD hS 0 rfl rfl 7 (by decide) (hts (.fieldLink RX12 213 "SoldHouseModel" "end" "I") (List.mem_of_getElem? (i := 1) rfl)) (fun _ h9 => h9) rfl (by decide +kernel) rfl rfl (Nat.le_of_ble_eq_true rfl) dX12_goOn_106 (fun H locs hP hD hS => ?_)
          replace hP : va_P D classes [(MO, .inr (12, oX12 aMO MO_taped MO_size MO_faultKind MO_faultPlace MO_size MO_size 0 MO_number MO_name MO_bank MO_rb MO_codes MO_within MO_piled MO_unitsInRule MO_askThing MO_acts MO_undone MO_laid MO_heards MO_time)), ((aMO 1), .inl (cB, 1600, .inl MO_text))] H := hP
          replace hD : va_D A [(MO, .inr (12, oX12 aMO MO_taped MO_size MO_faultKind MO_faultPlace MO_size MO_size 0 MO_number MO_name MO_bank MO_rb MO_codes MO_within MO_piled MO_unitsInRule MO_askThing MO_acts MO_undone MO_laid MO_heards MO_time)), ((aMO 1), .inl (cB, 1600, .inl MO_text))] := hD
          refine lv_goto (tgt := 377) hx hb dX12_goOn_109 (by decide) ?_
          exact up _ _ _ (W.vret hx hb hr (fun t ht hW => ⟨⟨(), rfl, trivial, ⟨MO_size, MO_size, 0, MO_number, MO_name, b_MO_size, b_MO_size, (zB_w (show zB 0 0 0 from ⟨by decide, by decide⟩) (by decide) (by decide)), (zM_2 (b_MO_end).2 (by have h9_0 := k8_a; have h9_1 := k58_a; have h9_2 := p63_lt; have h9_3 := (zg c85); have h9_4 := (show (0 : Int32).toInt = 0 from by decide); have h9_5 := (b_MO_end).1; have h9_6 := (b_MO_end).2; have h9_7 := (b_MO_size).1; have h9_8 := (b_MO_size).2; have h9_9 := (hr63).1; have h9_10 := (hr63).2; have h9_11 := (bw8_MO_6_k8).1; have h9_12 := (bw8_MO_6_k8).2; have h9_13 := (show (1 : Int32).toInt = 1 from by decide); have h9_14 := (show ((-1) : Int32).toInt = (-1) from by decide); omega)), by rw [ht]; exact hP, hD⟩⟩, hS.F ht⟩) hS.2.2 dX12_goOn_377)
      refine lv_icmp_ge (tgt := 58) hx hb dX12_goOn_16 (by decide) (fun c16 => ?_) (fun c16 => ?_)
      · exact j58 H locs ls (by have h9_0 := k8_a; have h9_1 := (ze c16); have h9_2 := (b_MO_end).1; have h9_3 := (b_MO_end).2; have h9_4 := (b_MO_size).1; have h9_5 := (b_MO_size).2; have h9_6 := (bw8_MO_6_k8).1; have h9_7 := (bw8_MO_6_k8).2; have h9_8 := (show (0 : Int32).toInt = 0 from by decide); have h9_9 := (show (1 : Int32).toInt = 1 from by decide); have h9_10 := (show ((-1) : Int32).toInt = (-1) from by decide); omega) hP hD hS (lv_sub hl [0] rfl)
      · have bx16f_w8_MO_6 : zB w8_MO_6 0 1599 := zB_ltu (zf c16) bw8_MO_6_k8 b_MO_size (by decide)
        have by16f_MO_size : zB MO_size 1 1600 := zB_ltv (zf c16) bx16f_w8_MO_6 b_MO_size (by decide)
        refine lv_aload_n hx hb dX12_goOn_19 rfl (lv_at hl 0 rfl) ?_
        refine lv_aload_n hx hb dX12_goOn_20 rfl (lv_at hl 0 rfl) ?_
        refine va_get (D := D) (ci := 12) (v := .int w8_MO_6) (C := RX12) (T := TX12) (N := 71) hx hb hts iw_X12_goOn_X12 hown hK hP 0 rfl rfl 6 (by decide) (hts (.fieldLink RX12 216 "SoldHouseModel" "at" "I") (List.mem_of_getElem? (i := 2) rfl)) (fun _ h9 => h9) rfl dX12_goOn_21 ?_
        have hPc := hP.sub (ws' := [(MO, .inr (12, oX12 aMO MO_taped MO_size MO_faultKind MO_faultPlace w8_MO_6 MO_end MO_token MO_number MO_name MO_bank MO_rb MO_codes MO_within MO_piled MO_unitsInRule MO_askThing MO_acts MO_undone MO_laid MO_heards MO_time)), ((aMO 1), .inl (cB, 1600, .inl MO_text))]) [0, 1] rfl
        refine vp_callSi (va_runV (As := [.int w8_MO_6]) (rest := []) ⟨hx, hb, hml, hown, hts⟩ (c_X12_sign l D cI cB cL cZ cG MO w8_MO_6 aMO MO_taped MO_size MO_faultKind MO_faultPlace w8_MO_6 MO_end MO_token MO_number MO_name MO_bank MO_rb MO_codes MO_within MO_piled MO_unitsInRule MO_askThing MO_acts MO_undone MO_laid MO_heards MO_time MO_text (zB_w bx16f_w8_MO_6 (by decide) (by decide)) b_MO_taped (zB_w by16f_MO_size (by decide) (by decide)) b_MO_faultKind (zB_w bx16f_w8_MO_6 (by decide) (by decide)) b_MO_end b_MO_token b_MO_bank b_MO_rb b_MO_codes b_MO_within b_MO_piled b_MO_unitsInRule b_MO_askThing b_MO_acts b_MO_undone b_MO_laid b_MO_heards b_MO_time) (cwV 1 hts gX12_goOn_X12_sign rfl rfl rfl (by decide +kernel) ⟨Nat.le_of_ble_eq_true rfl, Nat.le_of_ble_eq_true rfl⟩) ⟨xr_blind, va_recv hK hP (ci := 12) (q0 := 0) rfl rfl, fun U hU hW => xr_mk hU hW hPc hK⟩ rfl rfl hl.1 rfl (lv_room (Nat.le_of_ble_eq_true rfl)) dX12_goOn_24 ⟨Nat.le_of_ble_eq_true rfl, Nat.le_of_ble_eq_true rfl⟩).run (fun r24 hr24 => ?_)
        obtain ⟨hr24, p24_lt, p24_fn⟩ := hr24
        clear hPc
        refine lv_bipush (v := 32) hx hb dX12_goOn_27 (by decide) ?_
        have j45 : ∀ (H : Heap) (locs : List Loc) (ls : Array Slot), va_P D classes [(MO, .inr (12, oX12 aMO MO_taped MO_size MO_faultKind MO_faultPlace w8_MO_6 MO_end MO_token MO_number MO_name MO_bank MO_rb MO_codes MO_within MO_piled MO_unitsInRule MO_askThing MO_acts MO_undone MO_laid MO_heards MO_time)), ((aMO 1), .inl (cB, 1600, .inl MO_text))] H → va_D A [(MO, .inr (12, oX12 aMO MO_taped MO_size MO_faultKind MO_faultPlace w8_MO_6 MO_end MO_token MO_number MO_name MO_bank MO_rb MO_codes MO_within MO_piled MO_unitsInRule MO_askThing MO_acts MO_undone MO_laid MO_heards MO_time)), ((aMO 1), .inl (cB, 1600, .inl MO_text))] → va_S A s.heap H locs → lv_has ls 3 [(0, .ref MO)] → W p l e ({ frames := 1, cells := 0, slots := 0, locals := 22 } : Room) s m ([.ref MO] : List Value).toArray below meth c H locs 0 0 Q (F0 m 45 ls []) := by
          intro H locs ls hP hD hS hl
          refine lv_aload_n hx hb dX12_goOn_45 rfl (lv_at hl 0 rfl) ?_
          refine lv_dup hx hb dX12_goOn_46 rfl ?_
          refine va_get (D := D) (ci := 12) (v := .int w8_MO_6) (C := RX12) (T := TX12) (N := 71) hx hb hts iw_X12_goOn_X12 hown hK hP 0 rfl rfl 6 (by decide) (hts (.fieldLink RX12 216 "SoldHouseModel" "at" "I") (List.mem_of_getElem? (i := 2) rfl)) (fun _ h9 => h9) rfl dX12_goOn_47 ?_
          refine lv_iconst (v := 1) hx hb dX12_goOn_50 (by decide) ?_
          refine lv_iadd hx hb dX12_goOn_51 ?_
          refine zi_top2 (P := fun y => y.toInt = w8_MO_6.toInt + 1) (a := 1) (b := 1600) (zB_add bx16f_w8_MO_6 (show zB 1 1 1 from ⟨by decide, by decide⟩) (by decide) (by decide) (by decide) (by decide)) (zR_addc bx16f_w8_MO_6 (by decide) (by decide) (by decide)) (fun y51 by51 ry51 => ?_)
          refine va_put (D := D) (ci := 12) (v := .int y51) (ty := tyX12 6) (C := RX12) (T := TX12) (N := 71) hx hb hts iw_X12_goOn_X12 tyX12 tyX12_ok nmX12 hown hK hP hD hS 0 rfl rfl 6 (by decide) (hts (.fieldLink RX12 216 "SoldHouseModel" "at" "I") (List.mem_of_getElem? (i := 2) rfl)) (fun _ h9 => h9) rfl (by decide +kernel) rfl rfl (Nat.le_of_ble_eq_true rfl) dX12_goOn_52 (fun H locs hP hD hS => ?_)
          replace hP : va_P D classes [(MO, .inr (12, oX12 aMO MO_taped MO_size MO_faultKind MO_faultPlace y51 MO_end MO_token MO_number MO_name MO_bank MO_rb MO_codes MO_within MO_piled MO_unitsInRule MO_askThing MO_acts MO_undone MO_laid MO_heards MO_time)), ((aMO 1), .inl (cB, 1600, .inl MO_text))] H := hP
          replace hD : va_D A [(MO, .inr (12, oX12 aMO MO_taped MO_size MO_faultKind MO_faultPlace y51 MO_end MO_token MO_number MO_name MO_bank MO_rb MO_codes MO_within MO_piled MO_unitsInRule MO_askThing MO_acts MO_undone MO_laid MO_heards MO_time)), ((aMO 1), .inl (cB, 1600, .inl MO_text))] := hD
          refine lv_goto (tgt := 8) hx hb dX12_goOn_55 (by decide) ?_
          exact ih8 H locs ls y51 (zB_w by51 (by decide) (by decide)) (by have h9_0 := k8_a; have h9_1 := (zf c16); have h9_2 := p24_lt; have h9_3 := (b_MO_end).1; have h9_4 := (b_MO_end).2; have h9_5 := (by16f_MO_size).1; have h9_6 := (by16f_MO_size).2; have h9_7 := (hr24).1; have h9_8 := (hr24).2; have h9_9 := (bx16f_w8_MO_6).1; have h9_10 := (bx16f_w8_MO_6).2; have h9_11 := (by51).1; have h9_12 := (by51).2; have h9_13 := (show (0 : Int32).toInt = 0 from by decide); have h9_14 := (show (1 : Int32).toInt = 1 from by decide); have h9_15 := (show ((-1) : Int32).toInt = (-1) from by decide); omega) (zM_us (k := 1) hm8 ry51 (by decide)) hP hD hS (lv_sub hl [0] rfl)
        refine lv_icmp_eq (tgt := 45) hx hb dX12_goOn_29 (by decide) (fun c29 => ?_) (fun c29 => ?_)
        · have be29t_r24 : zB r24 32 32 := zB_eq c29 hr24 (show zB 32 32 32 from ⟨by decide, by decide⟩) (by decide) (by decide)
          exact j45 H locs ls hP hD hS (lv_sub hl [0] rfl)
        · refine lv_aload_n hx hb dX12_goOn_32 rfl (lv_at hl 0 rfl) ?_
          refine lv_aload_n hx hb dX12_goOn_33 rfl (lv_at hl 0 rfl) ?_
          refine va_get (D := D) (ci := 12) (v := .int w8_MO_6) (C := RX12) (T := TX12) (N := 71) hx hb hts iw_X12_goOn_X12 hown hK hP 0 rfl rfl 6 (by decide) (hts (.fieldLink RX12 216 "SoldHouseModel" "at" "I") (List.mem_of_getElem? (i := 2) rfl)) (fun _ h9 => h9) rfl dX12_goOn_34 ?_
          have hPc := hP.sub (ws' := [(MO, .inr (12, oX12 aMO MO_taped MO_size MO_faultKind MO_faultPlace w8_MO_6 MO_end MO_token MO_number MO_name MO_bank MO_rb MO_codes MO_within MO_piled MO_unitsInRule MO_askThing MO_acts MO_undone MO_laid MO_heards MO_time)), ((aMO 1), .inl (cB, 1600, .inl MO_text))]) [0, 1] rfl
          refine vp_callSi (va_runV (As := [.int w8_MO_6]) (rest := []) ⟨hx, hb, hml, hown, hts⟩ (c_X12_sign l D cI cB cL cZ cG MO w8_MO_6 aMO MO_taped MO_size MO_faultKind MO_faultPlace w8_MO_6 MO_end MO_token MO_number MO_name MO_bank MO_rb MO_codes MO_within MO_piled MO_unitsInRule MO_askThing MO_acts MO_undone MO_laid MO_heards MO_time MO_text (zB_w bx16f_w8_MO_6 (by decide) (by decide)) b_MO_taped (zB_w by16f_MO_size (by decide) (by decide)) b_MO_faultKind (zB_w bx16f_w8_MO_6 (by decide) (by decide)) b_MO_end b_MO_token b_MO_bank b_MO_rb b_MO_codes b_MO_within b_MO_piled b_MO_unitsInRule b_MO_askThing b_MO_acts b_MO_undone b_MO_laid b_MO_heards b_MO_time) (cwV 1 hts gX12_goOn_X12_sign rfl rfl rfl (by decide +kernel) ⟨Nat.le_of_ble_eq_true rfl, Nat.le_of_ble_eq_true rfl⟩) ⟨xr_blind, va_recv hK hP (ci := 12) (q0 := 0) rfl rfl, fun U hU hW => xr_mk hU hW hPc hK⟩ rfl rfl hl.1 rfl (lv_room (Nat.le_of_ble_eq_true rfl)) dX12_goOn_37 ⟨Nat.le_of_ble_eq_true rfl, Nat.le_of_ble_eq_true rfl⟩).run (fun r37 hr37 => ?_)
          obtain ⟨hr37, p37_lt, p37_fn⟩ := hr37
          clear hPc
          refine lv_bipush (v := 10) hx hb dX12_goOn_40 (by decide) ?_
          refine lv_icmp_ne (tgt := 58) hx hb dX12_goOn_42 (by decide) (fun c42 => ?_) (fun c42 => ?_)
          · exact j58 H locs ls (by have h9_0 := k8_a; have h9_1 := (zf c16); have h9_2 := p24_lt; have h9_3 := (zne c29); have h9_4 := p37_lt; have h9_5 := (zne c42); have h9_6 := (show (10 : Int32).toInt = 10 from by decide); have h9_7 := (show (32 : Int32).toInt = 32 from by decide); have h9_8 := (b_MO_end).1; have h9_9 := (b_MO_end).2; have h9_10 := (by16f_MO_size).1; have h9_11 := (by16f_MO_size).2; have h9_12 := (hr24).1; have h9_13 := (hr24).2; have h9_14 := (hr37).1; have h9_15 := (hr37).2; have h9_16 := (bx16f_w8_MO_6).1; have h9_17 := (bx16f_w8_MO_6).2; have h9_18 := (show (0 : Int32).toInt = 0 from by decide); have h9_19 := (show (1 : Int32).toInt = 1 from by decide); have h9_20 := (show ((-1) : Int32).toInt = (-1) from by decide); omega) hP hD hS (lv_sub hl [0] rfl)
          · have be42f_r37 : zB r37 10 10 := zB_eq c42 hr37 (show zB 10 10 10 from ⟨by decide, by decide⟩) (by decide) (by decide)
            exact j45 H locs ls hP hD hS (lv_sub hl [0] rfl)
  refine va_put (D := D) (ci := 12) (v := .int MO_end) (ty := tyX12 6) (C := RX12) (T := TX12) (N := 71) hx hb hts iw_X12_goOn_X12 tyX12 tyX12_ok nmX12 hown hK hP hD hS 0 rfl rfl 6 (by decide) (hts (.fieldLink RX12 216 "SoldHouseModel" "at" "I") (List.mem_of_getElem? (i := 2) rfl)) (fun _ h9 => h9) rfl (by decide +kernel) rfl rfl (Nat.le_of_ble_eq_true rfl) dX12_goOn_5 (fun H locs hP hD hS => ?_)
  replace hP : va_P D classes [(MO, .inr (12, oX12 aMO MO_taped MO_size MO_faultKind MO_faultPlace MO_end MO_end MO_token MO_number MO_name MO_bank MO_rb MO_codes MO_within MO_piled MO_unitsInRule MO_askThing MO_acts MO_undone MO_laid MO_heards MO_time)), ((aMO 1), .inl (cB, 1600, .inl MO_text))] H := hP
  replace hD : va_D A [(MO, .inr (12, oX12 aMO MO_taped MO_size MO_faultKind MO_faultPlace MO_end MO_end MO_token MO_number MO_name MO_bank MO_rb MO_codes MO_within MO_piled MO_unitsInRule MO_askThing MO_acts MO_undone MO_laid MO_heards MO_time)), ((aMO 1), .inl (cB, 1600, .inl MO_text))] := hD
  exact j8 1601 H locs ls MO_end b_MO_end (by have h9_0 := (b_MO_end).1; have h9_1 := (b_MO_end).2; have h9_2 := (show (0 : Int32).toInt = 0 from by decide); have h9_3 := (show (1 : Int32).toInt = 1 from by decide); have h9_4 := (show ((-1) : Int32).toInt = (-1) from by decide); omega) (zM_ui b_MO_end (by decide)) hP hD hS (lv_sub hl [0] rfl)
set_option maxHeartbeats 4000000 in
set_option maxRecDepth 100000 in
theorem c_X12_must (l : Launch) (D : va_G) (cI : ClassId) (cB : ClassId) (cL : ClassId) (cZ : ClassId) (cG : ClassId) (MO : Nat) (x0 : Int32) (aMO : Nat → Nat) (MO_taped : Int32) (MO_size : Int32) (MO_faultKind : Int32) (MO_faultPlace : Int32) (MO_at : Int32) (MO_end : Int32) (MO_token : Int32) (MO_number : Int32) (MO_name : Int64) (MO_bank : Int32) (MO_rb : Int32) (MO_codes : Int32) (MO_within : Int32) (MO_piled : Int32) (MO_unitsInRule : Int32) (MO_askThing : Int32) (MO_acts : Int32) (MO_undone : Int32) (MO_laid : Int32) (MO_heards : Int32) (MO_time : Int32) (MO_text : Nat → Int32) (sz : Nat) (b_MO_taped : zB MO_taped 0 1600) (b_MO_size : zB MO_size 0 1600) (b_MO_faultKind : zB MO_faultKind 0 5) (b_MO_at : zB MO_at 0 1600) (b_MO_end : zB MO_end 0 1600) (b_MO_token : zB MO_token 0 5) (b_MO_bank : zB MO_bank 0 1) (b_MO_rb : zB MO_rb 0 1) (b_MO_codes : zB MO_codes 0 1120) (b_MO_within : zB MO_within 0 7) (b_MO_piled : zB MO_piled 0 89) (b_MO_unitsInRule : zB MO_unitsInRule 0 30) (b_MO_askThing : zB MO_askThing 0 5) (b_MO_acts : zB MO_acts 0 40) (b_MO_undone : zB MO_undone 0 40) (b_MO_laid : zB MO_laid 0 8) (b_MO_heards : zB MO_heards 0 30) (b_MO_time : zB MO_time 0 100000) (ht0 : x0.toInt ≠ 0 → MO_token.toInt ≠ 0) : Met l yX12_must wsX12_must ({ frames := 2, cells := 0, slots := 0, locals := 44 }) (xp D [(cI, .int), (cB, .byte), (cL, .long), (cZ, .boolean), (cG, .array .int)] [(MO, .inr (12, oX12 aMO MO_taped MO_size MO_faultKind MO_faultPlace MO_at MO_end MO_token MO_number MO_name MO_bank MO_rb MO_codes MO_within MO_piled MO_unitsInRule MO_askThing MO_acts MO_undone MO_laid MO_heards MO_time)), ((aMO 1), .inl (cB, 1600, .inl MO_text))] sz [] [.ref MO, .int x0]) (va_Qv (fun _ : Unit => True) (fun (_ : Unit) (t : State) => ∃ (nMO_faultKind : Int32), ∃ (nMO_faultPlace : Int32), ∃ (nMO_at : Int32), ∃ (nMO_end : Int32), ∃ (nMO_token : Int32), ∃ (nMO_number : Int32), ∃ (nMO_name : Int64), zB nMO_faultKind 0 5 ∧ zB nMO_at 0 1600 ∧ zB nMO_end 0 1600 ∧ zB nMO_token 0 5 ∧ (zM nMO_end nMO_token ≤ zM MO_end MO_token) ∧ (nMO_faultKind.toInt = 0 → MO_faultKind.toInt = 0 ∧ x0.toInt ≠ 0) ∧ (nMO_faultKind.toInt = 0 → MO_token.toInt ≠ 0 → zM nMO_end nMO_token + 1 ≤ zM MO_end MO_token) ∧ xB D (va_A [(MO, .inr (12, oX12 aMO MO_taped MO_size MO_faultKind MO_faultPlace MO_at MO_end MO_token MO_number MO_name MO_bank MO_rb MO_codes MO_within MO_piled MO_unitsInRule MO_askThing MO_acts MO_undone MO_laid MO_heards MO_time)), ((aMO 1), .inl (cB, 1600, .inl MO_text))] sz) [(MO, .inr (12, oX12 aMO MO_taped MO_size nMO_faultKind nMO_faultPlace nMO_at nMO_end nMO_token nMO_number nMO_name MO_bank MO_rb MO_codes MO_within MO_piled MO_unitsInRule MO_askThing MO_acts MO_undone MO_laid MO_heards MO_time)), ((aMO 1), .inl (cB, 1600, .inl MO_text))] t) (va_A [(MO, .inr (12, oX12 aMO MO_taped MO_size MO_faultKind MO_faultPlace MO_at MO_end MO_token MO_number MO_name MO_bank MO_rb MO_codes MO_within MO_piled MO_unitsInRule MO_askThing MO_acts MO_undone MO_laid MO_heards MO_time)), ((aMO 1), .inl (cB, 1600, .inl MO_text))] sz)) 0 0 (va_A [(MO, .inr (12, oX12 aMO MO_taped MO_size MO_faultKind MO_faultPlace MO_at MO_end MO_token MO_number MO_name MO_bank MO_rb MO_codes MO_within MO_piled MO_unitsInRule MO_askThing MO_acts MO_undone MO_laid MO_heards MO_time)), ((aMO 1), .inl (cB, 1600, .inl MO_text))] sz) := by
  refine Met.ofW (cc := cX12_must) (maxL := 2) (ret := none) (by decide) rfl ?_
  intro p e s m args below meth c s₁ B hml hv
  obtain ⟨rfl, hsz, hP, hK, hD0, hNw⟩ := hv
  have hx := B.exec
  have hb := B.bytes
  have hr := B.returns
  have hts := atoms_spec (ws := wsX12_must) B.pre
  have hown : s.vm.findClass RX12 = some m.cls := findClass_of_methodNamed B.named
  have hlocks := B.notSynchronized
  clear B
  subst hsz
  have hD := hD0.self (sz := s.heap.size)
  clear hD0 hNw
  generalize hAe : va_A [(MO, .inr (12, oX12 aMO MO_taped MO_size MO_faultKind MO_faultPlace MO_at MO_end MO_token MO_number MO_name MO_bank MO_rb MO_codes MO_within MO_piled MO_unitsInRule MO_askThing MO_acts MO_undone MO_laid MO_heards MO_time)), ((aMO 1), .inl (cB, 1600, .inl MO_text))] s.heap.size = A at hD ⊢
  have hA : ∀ q : Nat, s.heap.size ≤ q → A q := fun q h => by rw [← hAe]; exact Or.inr h
  have hS : va_S A s.heap s.heap [] := va_S.rf
  clear hAe
  obtain ⟨H, hH⟩ : ∃ H : Heap, H = s.heap := ⟨_, rfl⟩
  obtain ⟨locs, hlocs⟩ : ∃ L : List Loc, L = [] := ⟨_, rfl⟩
  replace hP : va_P D classes [(MO, .inr (12, oX12 aMO MO_taped MO_size MO_faultKind MO_faultPlace MO_at MO_end MO_token MO_number MO_name MO_bank MO_rb MO_codes MO_within MO_piled MO_unitsInRule MO_askThing MO_acts MO_undone MO_laid MO_heards MO_time)), ((aMO 1), .inl (cB, 1600, .inl MO_text))] H := by rw [hH]; exact hP
  replace hS : va_S A s.heap H locs := by rw [hH, hlocs]; exact hS
  rw [← hH, ← hlocs]
  clear hlocs hH
  have hl := lv_entry ([.ref MO, .int x0]) (n := 2) (Nat.le_of_ble_eq_true rfl)
  rw [lg_entry_eq]
  generalize (lg_sl ([.ref MO, .int x0]) ++ List.replicate (2 - (lg_sl ([.ref MO, .int x0])).length) Slot.unset).toArray = ls at hl ⊢
  replace hl : lv_has ls 2 [(0, .ref MO), (1, .int x0)] := hl
  refine lv_aload_n hx hb dX12_must_0 rfl (lv_at hl 0 rfl) ?_
  have hPc := hP.sub (ws' := [(MO, .inr (12, oX12 aMO MO_taped MO_size MO_faultKind MO_faultPlace MO_at MO_end MO_token MO_number MO_name MO_bank MO_rb MO_codes MO_within MO_piled MO_unitsInRule MO_askThing MO_acts MO_undone MO_laid MO_heards MO_time))]) [0] rfl
  refine vp_callSi (va_runV (As := []) (rest := []) ⟨hx, hb, hml, hown, hts⟩ (c_X12_isGood l D cI cB cL cZ cG MO aMO MO_taped MO_size MO_faultKind MO_faultPlace MO_at MO_end MO_token MO_number MO_name MO_bank MO_rb MO_codes MO_within MO_piled MO_unitsInRule MO_askThing MO_acts MO_undone MO_laid MO_heards MO_time b_MO_taped b_MO_size b_MO_faultKind b_MO_at b_MO_end b_MO_token b_MO_bank b_MO_rb b_MO_codes b_MO_within b_MO_piled b_MO_unitsInRule b_MO_askThing b_MO_acts b_MO_undone b_MO_laid b_MO_heards b_MO_time) (cwV 0 hts gX12_must_X12_isGood rfl rfl rfl (by decide +kernel) ⟨Nat.le_of_ble_eq_true rfl, Nat.le_of_ble_eq_true rfl⟩) ⟨xr_blind, va_recv hK hP (ci := 12) (q0 := 0) rfl rfl, fun U hU hW => xr_mk hU hW hPc hK⟩ rfl rfl hl.1 rfl (lv_room (Nat.le_of_ble_eq_true rfl)) dX12_must_1 ⟨Nat.le_of_ble_eq_true rfl, Nat.le_of_ble_eq_true rfl⟩).run (fun r1 hr1 => ?_)
  clear hPc
  rcases hr1 with ⟨rfl, hr1_0_0⟩ | ⟨rfl, hr1_1_0⟩
  · refine lv_if_ne (tgt := 8) hx hb dX12_must_4 (by decide) (fun c4 => absurd (by decide) c4) (fun _ => ?_)
    exact W.vret hx hb hr (fun t ht hW => ⟨⟨(), rfl, trivial, ⟨MO_faultKind, MO_faultPlace, MO_at, MO_end, MO_token, MO_number, MO_name, (zB_w hr1_0_0 (by decide) (by decide)), b_MO_at, b_MO_end, b_MO_token, (by have h9_0 := ht0; have h9_1 := (b_MO_end).1; have h9_2 := (b_MO_end).2; have h9_3 := (b_MO_token).1; have h9_4 := (b_MO_token).2; have h9_5 := (show (0 : Int32).toInt = 0 from by decide); have h9_6 := (show (1 : Int32).toInt = 1 from by decide); have h9_7 := (show ((-1) : Int32).toInt = (-1) from by decide); omega), (by have h9_0 := ht0; have h9_1 := (hr1_0_0).1; have h9_2 := (hr1_0_0).2; have h9_3 := (b_MO_token).1; have h9_4 := (b_MO_token).2; have h9_5 := (show (0 : Int32).toInt = 0 from by decide); have h9_6 := (show (1 : Int32).toInt = 1 from by decide); have h9_7 := (show ((-1) : Int32).toInt = (-1) from by decide); omega), (by have h9_0 := ht0; have h9_1 := (b_MO_end).1; have h9_2 := (b_MO_end).2; have h9_3 := (hr1_0_0).1; have h9_4 := (hr1_0_0).2; have h9_5 := (b_MO_token).1; have h9_6 := (b_MO_token).2; have h9_7 := (show (0 : Int32).toInt = 0 from by decide); have h9_8 := (show (1 : Int32).toInt = 1 from by decide); have h9_9 := (show ((-1) : Int32).toInt = (-1) from by decide); omega), by rw [ht]; exact hP, hD⟩⟩, hS.F ht⟩) hS.2.2 dX12_must_7
  · refine lv_if_ne (tgt := 8) hx hb dX12_must_4 (by decide) (fun _ => ?_) (fun c4 => absurd c4 (by decide))
    refine lv_iload_n hx hb dX12_must_8 rfl (lv_at hl 1 rfl) ?_
    refine lv_if_eq (tgt := 19) hx hb dX12_must_9 (by decide) (fun c9 => ?_) (fun c9 => ?_)
    · have be9t_x0 : zB x0 0 0 := zB_eq c9 (zB_top x0) (show zB 0 0 0 from ⟨by decide, by decide⟩) (by decide) (by decide)
      refine lv_aload_n hx hb dX12_must_19 rfl (lv_at hl 0 rfl) ?_
      have hPc := hP.sub (ws' := [(MO, .inr (12, oX12 aMO MO_taped MO_size MO_faultKind MO_faultPlace MO_at MO_end MO_token MO_number MO_name MO_bank MO_rb MO_codes MO_within MO_piled MO_unitsInRule MO_askThing MO_acts MO_undone MO_laid MO_heards MO_time))]) [0] rfl
      have hDc := hD.sub (ws' := [(MO, .inr (12, oX12 aMO MO_taped MO_size MO_faultKind MO_faultPlace MO_at MO_end MO_token MO_number MO_name MO_bank MO_rb MO_codes MO_within MO_piled MO_unitsInRule MO_askThing MO_acts MO_undone MO_laid MO_heards MO_time))]) [0] (by decide) rfl
      have hFc := va_free (wc := [(MO, .inr (12, oX12 aMO MO_taped MO_size MO_faultKind MO_faultPlace MO_at MO_end MO_token MO_number MO_name MO_bank MO_rb MO_codes MO_within MO_piled MO_unitsInRule MO_askThing MO_acts MO_undone MO_laid MO_heards MO_time))]) hD hS hA [0] rfl
      refine va_callv (va_runV (As := []) (rest := []) ⟨hx, hb, hml, hown, hts⟩ (c_X12_misplaced l D cI cB cL cZ cG MO aMO MO_taped MO_size MO_faultKind MO_faultPlace MO_at MO_end MO_token MO_number MO_name MO_bank MO_rb MO_codes MO_within MO_piled MO_unitsInRule MO_askThing MO_acts MO_undone MO_laid MO_heards MO_time H.size b_MO_taped b_MO_size (zB_w hr1_1_0 (by decide) (by decide)) b_MO_at b_MO_end b_MO_token b_MO_bank b_MO_rb b_MO_codes b_MO_within b_MO_piled b_MO_unitsInRule b_MO_askThing b_MO_acts b_MO_undone b_MO_laid b_MO_heards b_MO_time) (cwV 0 hts gX12_must_X12_misplaced rfl rfl rfl (by decide +kernel) ⟨Nat.le_of_ble_eq_true rfl, Nat.le_of_ble_eq_true rfl⟩) ⟨xp_blind, va_recv hK hP (ci := 12) (q0 := 0) rfl rfl, fun U hU hW => xp_mk hU hW hPc hK hDc xNw_nil⟩ rfl rfl hl.1 rfl (lv_room (Nat.le_of_ble_eq_true rfl)) dX12_must_20 ⟨Nat.le_of_ble_eq_true rfl, Nat.le_of_ble_eq_true rfl⟩) hS (fun q _ h => hFc q h) hFc (fun u9 t9 H1 locs ht9 hvm9 hr20 hB9 hz9 hk9 hS => ?_)
      obtain ⟨o20_nMO_faultKind, o20_nMO_faultPlace, bo20_nMO_faultKind, hP1, hD1⟩ := hB9
      rw [ht9] at hP1
      obtain ⟨hP, hD⟩ := va_join (wr := [((aMO 1), .inl (cB, 1600, .inl MO_text))]) (w1 := [(MO, .inr (12, oX12 aMO MO_taped MO_size o20_nMO_faultKind o20_nMO_faultPlace MO_at MO_end MO_token MO_number MO_name MO_bank MO_rb MO_codes MO_within MO_piled MO_unitsInRule MO_askThing MO_acts MO_undone MO_laid MO_heards MO_time))]) hP hD [0] [1] rfl rfl (by decide) (by decide) hk9 hFc hP1 hD1
      clear hz9 hPc hDc hP1 hD1 hk9 hFc ht9 hvm9 u9 t9
      generalize H1 = H at hP hS ⊢
      replace hP : va_P D classes [(MO, .inr (12, oX12 aMO MO_taped MO_size o20_nMO_faultKind o20_nMO_faultPlace MO_at MO_end MO_token MO_number MO_name MO_bank MO_rb MO_codes MO_within MO_piled MO_unitsInRule MO_askThing MO_acts MO_undone MO_laid MO_heards MO_time)), ((aMO 1), .inl (cB, 1600, .inl MO_text))] H := hP.sub [1, 0] rfl
      replace hD : va_D A [(MO, .inr (12, oX12 aMO MO_taped MO_size o20_nMO_faultKind o20_nMO_faultPlace MO_at MO_end MO_token MO_number MO_name MO_bank MO_rb MO_codes MO_within MO_piled MO_unitsInRule MO_askThing MO_acts MO_undone MO_laid MO_heards MO_time)), ((aMO 1), .inl (cB, 1600, .inl MO_text))] := hD.sub [1, 0] (by decide) rfl
      exact W.vret hx hb hr (fun t ht hW => ⟨⟨(), rfl, trivial, ⟨o20_nMO_faultKind, o20_nMO_faultPlace, MO_at, MO_end, MO_token, MO_number, MO_name, (zB_w bo20_nMO_faultKind (by decide) (by decide)), b_MO_at, b_MO_end, b_MO_token, (by have h9_0 := ht0; have h9_1 := (congrArg Int32.toInt c9); have h9_2 := (show (0 : Int32).toInt = 0 from by decide); have h9_3 := (b_MO_end).1; have h9_4 := (b_MO_end).2; have h9_5 := (b_MO_token).1; have h9_6 := (b_MO_token).2; have h9_7 := (be9t_x0).1; have h9_8 := (be9t_x0).2; have h9_9 := (show (1 : Int32).toInt = 1 from by decide); have h9_10 := (show ((-1) : Int32).toInt = (-1) from by decide); omega), (by have h9_0 := ht0; have h9_1 := (congrArg Int32.toInt c9); have h9_2 := (show (0 : Int32).toInt = 0 from by decide); have h9_3 := (hr1_1_0).1; have h9_4 := (hr1_1_0).2; have h9_5 := (b_MO_token).1; have h9_6 := (b_MO_token).2; have h9_7 := (bo20_nMO_faultKind).1; have h9_8 := (bo20_nMO_faultKind).2; have h9_9 := (be9t_x0).1; have h9_10 := (be9t_x0).2; have h9_11 := (show (1 : Int32).toInt = 1 from by decide); have h9_12 := (show ((-1) : Int32).toInt = (-1) from by decide); omega), (by have h9_0 := ht0; have h9_1 := (congrArg Int32.toInt c9); have h9_2 := (show (0 : Int32).toInt = 0 from by decide); have h9_3 := (b_MO_end).1; have h9_4 := (b_MO_end).2; have h9_5 := (b_MO_token).1; have h9_6 := (b_MO_token).2; have h9_7 := (bo20_nMO_faultKind).1; have h9_8 := (bo20_nMO_faultKind).2; have h9_9 := (be9t_x0).1; have h9_10 := (be9t_x0).2; have h9_11 := (show (1 : Int32).toInt = 1 from by decide); have h9_12 := (show ((-1) : Int32).toInt = (-1) from by decide); omega), by rw [ht]; exact hP, hD⟩⟩, hS.F ht⟩) hS.2.2 dX12_must_23
    · refine lv_aload_n hx hb dX12_must_12 rfl (lv_at hl 0 rfl) ?_
      have hPc := hP.sub (ws' := [(MO, .inr (12, oX12 aMO MO_taped MO_size MO_faultKind MO_faultPlace MO_at MO_end MO_token MO_number MO_name MO_bank MO_rb MO_codes MO_within MO_piled MO_unitsInRule MO_askThing MO_acts MO_undone MO_laid MO_heards MO_time)), ((aMO 1), .inl (cB, 1600, .inl MO_text))]) [0, 1] rfl
      have hDc := hD.sub (ws' := [(MO, .inr (12, oX12 aMO MO_taped MO_size MO_faultKind MO_faultPlace MO_at MO_end MO_token MO_number MO_name MO_bank MO_rb MO_codes MO_within MO_piled MO_unitsInRule MO_askThing MO_acts MO_undone MO_laid MO_heards MO_time)), ((aMO 1), .inl (cB, 1600, .inl MO_text))]) [0, 1] (by decide) rfl
      have hFc := va_free (wc := [(MO, .inr (12, oX12 aMO MO_taped MO_size MO_faultKind MO_faultPlace MO_at MO_end MO_token MO_number MO_name MO_bank MO_rb MO_codes MO_within MO_piled MO_unitsInRule MO_askThing MO_acts MO_undone MO_laid MO_heards MO_time)), ((aMO 1), .inl (cB, 1600, .inl MO_text))]) hD hS hA [0, 1] rfl
      refine va_callv (va_runV (As := []) (rest := []) ⟨hx, hb, hml, hown, hts⟩ (c_X12_goOn l D cI cB cL cZ cG MO aMO MO_taped MO_size MO_faultKind MO_faultPlace MO_at MO_end MO_token MO_number MO_name MO_bank MO_rb MO_codes MO_within MO_piled MO_unitsInRule MO_askThing MO_acts MO_undone MO_laid MO_heards MO_time MO_text H.size b_MO_taped b_MO_size (zB_w hr1_1_0 (by decide) (by decide)) b_MO_at b_MO_end b_MO_token b_MO_bank b_MO_rb b_MO_codes b_MO_within b_MO_piled b_MO_unitsInRule b_MO_askThing b_MO_acts b_MO_undone b_MO_laid b_MO_heards b_MO_time) (cwV 0 hts gX12_must_X12_goOn rfl rfl rfl (by decide +kernel) ⟨Nat.le_of_ble_eq_true rfl, Nat.le_of_ble_eq_true rfl⟩) ⟨xp_blind, va_recv hK hP (ci := 12) (q0 := 0) rfl rfl, fun U hU hW => xp_mk hU hW hPc hK hDc xNw_nil⟩ rfl rfl hl.1 rfl (lv_room (Nat.le_of_ble_eq_true rfl)) dX12_must_13 ⟨Nat.le_of_ble_eq_true rfl, Nat.le_of_ble_eq_true rfl⟩) hS (fun q _ h => hFc q h) hFc (fun u9 t9 H1 locs ht9 hvm9 hr13 hB9 hz9 hk9 hS => ?_)
      obtain ⟨o13_nMO_at, o13_nMO_end, o13_nMO_token, o13_nMO_number, o13_nMO_name, bo13_nMO_at, bo13_nMO_end, bo13_nMO_token, p13_m2, hP1, hD1⟩ := hB9
      rw [ht9] at hP1
      obtain ⟨hP, hD⟩ := va_join (wr := []) (w1 := [(MO, .inr (12, oX12 aMO MO_taped MO_size MO_faultKind MO_faultPlace o13_nMO_at o13_nMO_end o13_nMO_token o13_nMO_number o13_nMO_name MO_bank MO_rb MO_codes MO_within MO_piled MO_unitsInRule MO_askThing MO_acts MO_undone MO_laid MO_heards MO_time)), ((aMO 1), .inl (cB, 1600, .inl MO_text))]) hP hD [0, 1] [] rfl rfl (by decide) (by decide) hk9 hFc hP1 hD1
      clear hz9 hPc hDc hP1 hD1 hk9 hFc ht9 hvm9 u9 t9
      generalize H1 = H at hP hS ⊢
      replace hP : va_P D classes [(MO, .inr (12, oX12 aMO MO_taped MO_size MO_faultKind MO_faultPlace o13_nMO_at o13_nMO_end o13_nMO_token o13_nMO_number o13_nMO_name MO_bank MO_rb MO_codes MO_within MO_piled MO_unitsInRule MO_askThing MO_acts MO_undone MO_laid MO_heards MO_time)), ((aMO 1), .inl (cB, 1600, .inl MO_text))] H := hP
      replace hD : va_D A [(MO, .inr (12, oX12 aMO MO_taped MO_size MO_faultKind MO_faultPlace o13_nMO_at o13_nMO_end o13_nMO_token o13_nMO_number o13_nMO_name MO_bank MO_rb MO_codes MO_within MO_piled MO_unitsInRule MO_askThing MO_acts MO_undone MO_laid MO_heards MO_time)), ((aMO 1), .inl (cB, 1600, .inl MO_text))] := hD
      refine lv_goto (tgt := 23) hx hb dX12_must_16 (by decide) ?_
      exact W.vret hx hb hr (fun t ht hW => ⟨⟨(), rfl, trivial, ⟨MO_faultKind, MO_faultPlace, o13_nMO_at, o13_nMO_end, o13_nMO_token, o13_nMO_number, o13_nMO_name, (zB_w hr1_1_0 (by decide) (by decide)), bo13_nMO_at, bo13_nMO_end, bo13_nMO_token, (by have h9_0 := ht0; have h9_1 := (zne c9); have h9_2 := p13_m2; have h9_3 := (show (0 : Int32).toInt = 0 from by decide); have h9_4 := (b_MO_end).1; have h9_5 := (b_MO_end).2; have h9_6 := (b_MO_token).1; have h9_7 := (b_MO_token).2; have h9_8 := (bo13_nMO_end).1; have h9_9 := (bo13_nMO_end).2; have h9_10 := (bo13_nMO_token).1; have h9_11 := (bo13_nMO_token).2; have h9_12 := (show (1 : Int32).toInt = 1 from by decide); have h9_13 := (show ((-1) : Int32).toInt = (-1) from by decide); omega), (by have h9_0 := ht0; have h9_1 := (zne c9); have h9_2 := p13_m2; have h9_3 := (show (0 : Int32).toInt = 0 from by decide); have h9_4 := (b_MO_end).1; have h9_5 := (b_MO_end).2; have h9_6 := (hr1_1_0).1; have h9_7 := (hr1_1_0).2; have h9_8 := (b_MO_token).1; have h9_9 := (b_MO_token).2; have h9_10 := (bo13_nMO_end).1; have h9_11 := (bo13_nMO_end).2; have h9_12 := (bo13_nMO_token).1; have h9_13 := (bo13_nMO_token).2; have h9_14 := (show (1 : Int32).toInt = 1 from by decide); have h9_15 := (show ((-1) : Int32).toInt = (-1) from by decide); omega), (by have h9_0 := ht0; have h9_1 := (zne c9); have h9_2 := p13_m2; have h9_3 := (show (0 : Int32).toInt = 0 from by decide); have h9_4 := (b_MO_end).1; have h9_5 := (b_MO_end).2; have h9_6 := (hr1_1_0).1; have h9_7 := (hr1_1_0).2; have h9_8 := (b_MO_token).1; have h9_9 := (b_MO_token).2; have h9_10 := (bo13_nMO_end).1; have h9_11 := (bo13_nMO_end).2; have h9_12 := (bo13_nMO_token).1; have h9_13 := (bo13_nMO_token).2; have h9_14 := (show (1 : Int32).toInt = 1 from by decide); have h9_15 := (show ((-1) : Int32).toInt = (-1) from by decide); omega), by rw [ht]; exact hP, hD⟩⟩, hS.F ht⟩) hS.2.2 dX12_must_23
set_option maxHeartbeats 4000000 in
set_option maxRecDepth 100000 in
theorem c_X12_numeral (l : Launch) (D : va_G) (cI : ClassId) (cB : ClassId) (cL : ClassId) (cZ : ClassId) (cG : ClassId) (MO : Nat) (x0 : Int32) (x1 : Int32) (aMO : Nat → Nat) (MO_taped : Int32) (MO_size : Int32) (MO_faultKind : Int32) (MO_faultPlace : Int32) (MO_at : Int32) (MO_end : Int32) (MO_token : Int32) (MO_number : Int32) (MO_name : Int64) (MO_bank : Int32) (MO_rb : Int32) (MO_codes : Int32) (MO_within : Int32) (MO_piled : Int32) (MO_unitsInRule : Int32) (MO_askThing : Int32) (MO_acts : Int32) (MO_undone : Int32) (MO_laid : Int32) (MO_heards : Int32) (MO_time : Int32) (MO_text : Nat → Int32) (sz : Nat) (b_x0 : zB x0 0 0) (b_x1 : zB x1 0 999) (b_MO_taped : zB MO_taped 0 1600) (b_MO_size : zB MO_size 0 1600) (b_MO_faultKind : zB MO_faultKind 0 5) (b_MO_at : zB MO_at 0 1600) (b_MO_end : zB MO_end 0 1600) (b_MO_token : zB MO_token 0 5) (b_MO_bank : zB MO_bank 0 1) (b_MO_rb : zB MO_rb 0 1) (b_MO_codes : zB MO_codes 0 1120) (b_MO_within : zB MO_within 0 7) (b_MO_piled : zB MO_piled 0 89) (b_MO_unitsInRule : zB MO_unitsInRule 0 30) (b_MO_askThing : zB MO_askThing 0 5) (b_MO_acts : zB MO_acts 0 40) (b_MO_undone : zB MO_undone 0 40) (b_MO_laid : zB MO_laid 0 8) (b_MO_heards : zB MO_heards 0 30) (b_MO_time : zB MO_time 0 100000) : Met l yX12_numeral wsX12_numeral ({ frames := 2, cells := 0, slots := 0, locals := 44 }) (xp D [(cI, .int), (cB, .byte), (cL, .long), (cZ, .boolean), (cG, .array .int)] [(MO, .inr (12, oX12 aMO MO_taped MO_size MO_faultKind MO_faultPlace MO_at MO_end MO_token MO_number MO_name MO_bank MO_rb MO_codes MO_within MO_piled MO_unitsInRule MO_askThing MO_acts MO_undone MO_laid MO_heards MO_time)), ((aMO 1), .inl (cB, 1600, .inl MO_text))] sz [] [.ref MO, .int x0, .int x1]) (va_Qi (fun (r : Int32) (u : Int32) => r = u ∧ (zB r 0 999)) (fun (u : Int32) (t : State) => ∃ (nMO_faultKind : Int32), ∃ (nMO_faultPlace : Int32), ∃ (nMO_at : Int32), ∃ (nMO_end : Int32), ∃ (nMO_token : Int32), ∃ (nMO_number : Int32), ∃ (nMO_name : Int64), zB nMO_faultKind 0 5 ∧ zB nMO_at 0 1600 ∧ zB nMO_end 0 1600 ∧ zB nMO_token 0 5 ∧ (zM nMO_end nMO_token ≤ zM MO_end MO_token) ∧ (nMO_faultKind.toInt = 0 → MO_faultKind.toInt = 0) ∧ (u.toInt ≤ x1.toInt) ∧ xB D (va_A [(MO, .inr (12, oX12 aMO MO_taped MO_size MO_faultKind MO_faultPlace MO_at MO_end MO_token MO_number MO_name MO_bank MO_rb MO_codes MO_within MO_piled MO_unitsInRule MO_askThing MO_acts MO_undone MO_laid MO_heards MO_time)), ((aMO 1), .inl (cB, 1600, .inl MO_text))] sz) [(MO, .inr (12, oX12 aMO MO_taped MO_size nMO_faultKind nMO_faultPlace nMO_at nMO_end nMO_token nMO_number nMO_name MO_bank MO_rb MO_codes MO_within MO_piled MO_unitsInRule MO_askThing MO_acts MO_undone MO_laid MO_heards MO_time)), ((aMO 1), .inl (cB, 1600, .inl MO_text))] t) (va_A [(MO, .inr (12, oX12 aMO MO_taped MO_size MO_faultKind MO_faultPlace MO_at MO_end MO_token MO_number MO_name MO_bank MO_rb MO_codes MO_within MO_piled MO_unitsInRule MO_askThing MO_acts MO_undone MO_laid MO_heards MO_time)), ((aMO 1), .inl (cB, 1600, .inl MO_text))] sz)) 0 0 (va_A [(MO, .inr (12, oX12 aMO MO_taped MO_size MO_faultKind MO_faultPlace MO_at MO_end MO_token MO_number MO_name MO_bank MO_rb MO_codes MO_within MO_piled MO_unitsInRule MO_askThing MO_acts MO_undone MO_laid MO_heards MO_time)), ((aMO 1), .inl (cB, 1600, .inl MO_text))] sz) := by
  refine Met.ofW (cc := cX12_numeral) (maxL := 4) (ret := (some .int)) (by decide) rfl ?_
  intro p e s m args below meth c s₁ B hml hv
  obtain ⟨rfl, hsz, hP, hK, hD0, hNw⟩ := hv
  have hx := B.exec
  have hb := B.bytes
  have hr := B.returns
  have hts := atoms_spec (ws := wsX12_numeral) B.pre
  have hown : s.vm.findClass RX12 = some m.cls := findClass_of_methodNamed B.named
  have hlocks := B.notSynchronized
  clear B
  subst hsz
  have hD := hD0.self (sz := s.heap.size)
  clear hD0 hNw
  generalize hAe : va_A [(MO, .inr (12, oX12 aMO MO_taped MO_size MO_faultKind MO_faultPlace MO_at MO_end MO_token MO_number MO_name MO_bank MO_rb MO_codes MO_within MO_piled MO_unitsInRule MO_askThing MO_acts MO_undone MO_laid MO_heards MO_time)), ((aMO 1), .inl (cB, 1600, .inl MO_text))] s.heap.size = A at hD ⊢
  have hA : ∀ q : Nat, s.heap.size ≤ q → A q := fun q h => by rw [← hAe]; exact Or.inr h
  have hS : va_S A s.heap s.heap [] := va_S.rf
  clear hAe
  obtain ⟨H, hH⟩ : ∃ H : Heap, H = s.heap := ⟨_, rfl⟩
  obtain ⟨locs, hlocs⟩ : ∃ L : List Loc, L = [] := ⟨_, rfl⟩
  replace hP : va_P D classes [(MO, .inr (12, oX12 aMO MO_taped MO_size MO_faultKind MO_faultPlace MO_at MO_end MO_token MO_number MO_name MO_bank MO_rb MO_codes MO_within MO_piled MO_unitsInRule MO_askThing MO_acts MO_undone MO_laid MO_heards MO_time)), ((aMO 1), .inl (cB, 1600, .inl MO_text))] H := by rw [hH]; exact hP
  replace hS : va_S A s.heap H locs := by rw [hH, hlocs]; exact hS
  rw [← hH, ← hlocs]
  clear hlocs hH
  have hl := lv_entry ([.ref MO, .int x0, .int x1]) (n := 4) (Nat.le_of_ble_eq_true rfl)
  rw [lg_entry_eq]
  generalize (lg_sl ([.ref MO, .int x0, .int x1]) ++ List.replicate (4 - (lg_sl ([.ref MO, .int x0, .int x1])).length) Slot.unset).toArray = ls at hl ⊢
  replace hl : lv_has ls 4 [(0, .ref MO), (1, .int x0), (2, .int x1)] := hl
  refine lv_aload_n hx hb dX12_numeral_0 rfl (lv_at hl 0 rfl) ?_
  have hPc := hP.sub (ws' := [(MO, .inr (12, oX12 aMO MO_taped MO_size MO_faultKind MO_faultPlace MO_at MO_end MO_token MO_number MO_name MO_bank MO_rb MO_codes MO_within MO_piled MO_unitsInRule MO_askThing MO_acts MO_undone MO_laid MO_heards MO_time))]) [0] rfl
  refine vp_callSi (va_runV (As := []) (rest := []) ⟨hx, hb, hml, hown, hts⟩ (c_X12_isGood l D cI cB cL cZ cG MO aMO MO_taped MO_size MO_faultKind MO_faultPlace MO_at MO_end MO_token MO_number MO_name MO_bank MO_rb MO_codes MO_within MO_piled MO_unitsInRule MO_askThing MO_acts MO_undone MO_laid MO_heards MO_time b_MO_taped b_MO_size b_MO_faultKind b_MO_at b_MO_end b_MO_token b_MO_bank b_MO_rb b_MO_codes b_MO_within b_MO_piled b_MO_unitsInRule b_MO_askThing b_MO_acts b_MO_undone b_MO_laid b_MO_heards b_MO_time) (cwV 0 hts gX12_numeral_X12_isGood rfl rfl rfl (by decide +kernel) ⟨Nat.le_of_ble_eq_true rfl, Nat.le_of_ble_eq_true rfl⟩) ⟨xr_blind, va_recv hK hP (ci := 12) (q0 := 0) rfl rfl, fun U hU hW => xr_mk hU hW hPc hK⟩ rfl rfl hl.1 rfl (lv_room (Nat.le_of_ble_eq_true rfl)) dX12_numeral_1 ⟨Nat.le_of_ble_eq_true rfl, Nat.le_of_ble_eq_true rfl⟩).run (fun r1 hr1 => ?_)
  clear hPc
  rcases hr1 with ⟨rfl, hr1_0_0⟩ | ⟨rfl, hr1_1_0⟩
  · refine lv_if_ne (tgt := 9) hx hb dX12_numeral_4 (by decide) (fun c4 => absurd (by decide) c4) (fun _ => ?_)
    refine lv_iload_n hx hb dX12_numeral_7 rfl (lv_at hl 1 rfl) ?_
    exact W.iret (v := x0) hx hb hr (fun t ht hW => ⟨⟨x0, x0, rfl, ⟨rfl, (zB_w b_x0 (by decide) (by decide))⟩, ⟨MO_faultKind, MO_faultPlace, MO_at, MO_end, MO_token, MO_number, MO_name, (zB_w hr1_0_0 (by decide) (by decide)), b_MO_at, b_MO_end, b_MO_token, (by have h9_0 := (b_MO_end).1; have h9_1 := (b_MO_end).2; have h9_2 := (b_MO_token).1; have h9_3 := (b_MO_token).2; have h9_4 := (show (0 : Int32).toInt = 0 from by decide); have h9_5 := (show (1 : Int32).toInt = 1 from by decide); have h9_6 := (show ((-1) : Int32).toInt = (-1) from by decide); omega), (by have h9_0 := (hr1_0_0).1; have h9_1 := (hr1_0_0).2; have h9_2 := (show (0 : Int32).toInt = 0 from by decide); have h9_3 := (show (1 : Int32).toInt = 1 from by decide); have h9_4 := (show ((-1) : Int32).toInt = (-1) from by decide); omega), (by have h9_0 := (b_x0).1; have h9_1 := (b_x0).2; have h9_2 := (b_x1).1; have h9_3 := (b_x1).2; have h9_4 := (show (0 : Int32).toInt = 0 from by decide); have h9_5 := (show (1 : Int32).toInt = 1 from by decide); have h9_6 := (show ((-1) : Int32).toInt = (-1) from by decide); omega), by rw [ht]; exact hP, hD⟩⟩, hS.F ht⟩) hS.2.2 dX12_numeral_8
  · refine lv_if_ne (tgt := 9) hx hb dX12_numeral_4 (by decide) (fun _ => ?_) (fun c4 => absurd c4 (by decide))
    refine lv_aload_n hx hb dX12_numeral_9 rfl (lv_at hl 0 rfl) ?_
    refine va_get (D := D) (ci := 12) (v := .int MO_token) (C := RX12) (T := TX12) (N := 71) hx hb hts iw_X12_numeral_X12 hown hK hP 0 rfl rfl 8 (by decide) (hts (.fieldLink RX12 223 "SoldHouseModel" "token" "I") (List.mem_of_getElem? (i := 1) rfl)) (fun _ h9 => h9) rfl dX12_numeral_10 ?_
    refine lv_iconst (v := 4) hx hb dX12_numeral_13 (by decide) ?_
    refine lv_icmp_eq (tgt := 21) hx hb dX12_numeral_14 (by decide) (fun c14 => ?_) (fun c14 => ?_)
    · have be14t_MO_token : zB MO_token 4 4 := zB_eq c14 b_MO_token (show zB 4 4 4 from ⟨by decide, by decide⟩) (by decide) (by decide)
      refine lv_aload_n hx hb dX12_numeral_21 rfl (lv_at hl 0 rfl) ?_
      have hPc := hP.sub (ws' := [(MO, .inr (12, oX12 aMO MO_taped MO_size MO_faultKind MO_faultPlace MO_at MO_end MO_token MO_number MO_name MO_bank MO_rb MO_codes MO_within MO_piled MO_unitsInRule MO_askThing MO_acts MO_undone MO_laid MO_heards MO_time))]) [0] rfl
      refine vp_callSi (va_runV (As := []) (rest := []) ⟨hx, hb, hml, hown, hts⟩ (c_X12_isGood l D cI cB cL cZ cG MO aMO MO_taped MO_size MO_faultKind MO_faultPlace MO_at MO_end MO_token MO_number MO_name MO_bank MO_rb MO_codes MO_within MO_piled MO_unitsInRule MO_askThing MO_acts MO_undone MO_laid MO_heards MO_time b_MO_taped b_MO_size (zB_w hr1_1_0 (by decide) (by decide)) b_MO_at b_MO_end (zB_w be14t_MO_token (by decide) (by decide)) b_MO_bank b_MO_rb b_MO_codes b_MO_within b_MO_piled b_MO_unitsInRule b_MO_askThing b_MO_acts b_MO_undone b_MO_laid b_MO_heards b_MO_time) (cwV 0 hts gX12_numeral_X12_isGood rfl rfl rfl (by decide +kernel) ⟨Nat.le_of_ble_eq_true rfl, Nat.le_of_ble_eq_true rfl⟩) ⟨xr_blind, va_recv hK hP (ci := 12) (q0 := 0) rfl rfl, fun U hU hW => xr_mk hU hW hPc hK⟩ rfl rfl hl.1 rfl (lv_room (Nat.le_of_ble_eq_true rfl)) dX12_numeral_22 ⟨Nat.le_of_ble_eq_true rfl, Nat.le_of_ble_eq_true rfl⟩).run (fun r22 hr22 => ?_)
      clear hPc
      rcases hr22 with ⟨rfl, hr22_0_0⟩ | ⟨rfl, hr22_1_0⟩
      · exact zB_no (a := 1) (b := 0) (zB_meet hr22_0_0 hr1_1_0 (by decide) (by decide)) (by decide)
      · refine lv_if_eq (tgt := 53) hx hb dX12_numeral_25 (by decide) (fun c25 => absurd c25 (by decide)) (fun _ => ?_)
        refine lv_aload_n hx hb dX12_numeral_28 rfl (lv_at hl 0 rfl) ?_
        refine va_get (D := D) (ci := 12) (v := .int MO_number) (C := RX12) (T := TX12) (N := 71) hx hb hts iw_X12_numeral_X12 hown hK hP 0 rfl rfl 9 (by decide) (hts (.fieldLink RX12 241 "SoldHouseModel" "number" "I") (List.mem_of_getElem? (i := 2) rfl)) (fun _ h9 => h9) rfl dX12_numeral_29 ?_
        refine lv_iload_n hx hb dX12_numeral_32 rfl (lv_at hl 1 rfl) ?_
        refine lv_icmp_lt (tgt := 44) hx hb dX12_numeral_33 (by decide) (fun c33 => ?_) (fun c33 => ?_)
        · have bx33t_MO_number : zB MO_number (-2147483648) (-1) := zB_ltu (zl c33) (zB_top MO_number) b_x0 (by decide)
          refine lv_aload_n hx hb dX12_numeral_44 rfl (lv_at hl 0 rfl) ?_
          refine lv_iconst (v := 4) hx hb dX12_numeral_45 (by decide) ?_
          refine lv_aload_n hx hb dX12_numeral_46 rfl (lv_at hl 0 rfl) ?_
          refine va_get (D := D) (ci := 12) (v := .int MO_at) (C := RX12) (T := TX12) (N := 71) hx hb hts iw_X12_numeral_X12 hown hK hP 0 rfl rfl 6 (by decide) (hts (.fieldLink RX12 216 "SoldHouseModel" "at" "I") (List.mem_of_getElem? (i := 3) rfl)) (fun _ h9 => h9) rfl dX12_numeral_47 ?_
          have hPc := hP.sub (ws' := [(MO, .inr (12, oX12 aMO MO_taped MO_size MO_faultKind MO_faultPlace MO_at MO_end MO_token MO_number MO_name MO_bank MO_rb MO_codes MO_within MO_piled MO_unitsInRule MO_askThing MO_acts MO_undone MO_laid MO_heards MO_time))]) [0] rfl
          have hDc := hD.sub (ws' := [(MO, .inr (12, oX12 aMO MO_taped MO_size MO_faultKind MO_faultPlace MO_at MO_end MO_token MO_number MO_name MO_bank MO_rb MO_codes MO_within MO_piled MO_unitsInRule MO_askThing MO_acts MO_undone MO_laid MO_heards MO_time))]) [0] (by decide) rfl
          have hFc := va_free (wc := [(MO, .inr (12, oX12 aMO MO_taped MO_size MO_faultKind MO_faultPlace MO_at MO_end MO_token MO_number MO_name MO_bank MO_rb MO_codes MO_within MO_piled MO_unitsInRule MO_askThing MO_acts MO_undone MO_laid MO_heards MO_time))]) hD hS hA [0] rfl
          refine va_callv (va_runV (As := [.int 4, .int MO_at]) (rest := []) ⟨hx, hb, hml, hown, hts⟩ (c_X12_fails l D cI cB cL cZ cG MO 4 MO_at aMO MO_taped MO_size MO_faultKind MO_faultPlace MO_at MO_end MO_token MO_number MO_name MO_bank MO_rb MO_codes MO_within MO_piled MO_unitsInRule MO_askThing MO_acts MO_undone MO_laid MO_heards MO_time H.size (zB_w (show zB 4 4 4 from ⟨by decide, by decide⟩) (by decide) (by decide)) b_MO_taped b_MO_size (zB_w hr22_1_0 (by decide) (by decide)) b_MO_at b_MO_end (zB_w be14t_MO_token (by decide) (by decide)) b_MO_bank b_MO_rb b_MO_codes b_MO_within b_MO_piled b_MO_unitsInRule b_MO_askThing b_MO_acts b_MO_undone b_MO_laid b_MO_heards b_MO_time) (cwV 2 hts gX12_numeral_X12_fails rfl rfl rfl (by decide +kernel) ⟨Nat.le_of_ble_eq_true rfl, Nat.le_of_ble_eq_true rfl⟩) ⟨xp_blind, va_recv hK hP (ci := 12) (q0 := 0) rfl rfl, fun U hU hW => xp_mk hU hW hPc hK hDc xNw_nil⟩ rfl rfl hl.1 rfl (lv_room (Nat.le_of_ble_eq_true rfl)) dX12_numeral_50 ⟨Nat.le_of_ble_eq_true rfl, Nat.le_of_ble_eq_true rfl⟩) hS (fun q _ h => hFc q h) hFc (fun u9 t9 H1 locs ht9 hvm9 hr50 hB9 hz9 hk9 hS => ?_)
          obtain ⟨o50_nMO_faultKind, o50_nMO_faultPlace, bo50_nMO_faultKind, hP1, hD1⟩ := hB9
          rw [ht9] at hP1
          obtain ⟨hP, hD⟩ := va_join (wr := [((aMO 1), .inl (cB, 1600, .inl MO_text))]) (w1 := [(MO, .inr (12, oX12 aMO MO_taped MO_size o50_nMO_faultKind o50_nMO_faultPlace MO_at MO_end MO_token MO_number MO_name MO_bank MO_rb MO_codes MO_within MO_piled MO_unitsInRule MO_askThing MO_acts MO_undone MO_laid MO_heards MO_time))]) hP hD [0] [1] rfl rfl (by decide) (by decide) hk9 hFc hP1 hD1
          clear hz9 hPc hDc hP1 hD1 hk9 hFc ht9 hvm9 u9 t9
          generalize H1 = H at hP hS ⊢
          replace hP : va_P D classes [(MO, .inr (12, oX12 aMO MO_taped MO_size o50_nMO_faultKind o50_nMO_faultPlace MO_at MO_end MO_token MO_number MO_name MO_bank MO_rb MO_codes MO_within MO_piled MO_unitsInRule MO_askThing MO_acts MO_undone MO_laid MO_heards MO_time)), ((aMO 1), .inl (cB, 1600, .inl MO_text))] H := hP.sub [1, 0] rfl
          replace hD : va_D A [(MO, .inr (12, oX12 aMO MO_taped MO_size o50_nMO_faultKind o50_nMO_faultPlace MO_at MO_end MO_token MO_number MO_name MO_bank MO_rb MO_codes MO_within MO_piled MO_unitsInRule MO_askThing MO_acts MO_undone MO_laid MO_heards MO_time)), ((aMO 1), .inl (cB, 1600, .inl MO_text))] := hD.sub [1, 0] (by decide) rfl
          refine lv_aload_n hx hb dX12_numeral_53 rfl (lv_at hl 0 rfl) ?_
          refine va_get (D := D) (ci := 12) (v := .int MO_number) (C := RX12) (T := TX12) (N := 71) hx hb hts iw_X12_numeral_X12 hown hK hP 0 rfl rfl 9 (by decide) (hts (.fieldLink RX12 241 "SoldHouseModel" "number" "I") (List.mem_of_getElem? (i := 2) rfl)) (fun _ h9 => h9) rfl dX12_numeral_54 ?_
          refine lv_istore_n (lv' := [(3, .int MO_number), (0, .ref MO), (1, .int x0), (2, .int x1)]) hx hb dX12_numeral_57 rfl hl (by decide) rfl (fun ls hl => ?_)
          refine lv_aload_n hx hb dX12_numeral_58 rfl (lv_at hl 1 rfl) ?_
          have hPc := hP.sub (ws' := [(MO, .inr (12, oX12 aMO MO_taped MO_size o50_nMO_faultKind o50_nMO_faultPlace MO_at MO_end MO_token MO_number MO_name MO_bank MO_rb MO_codes MO_within MO_piled MO_unitsInRule MO_askThing MO_acts MO_undone MO_laid MO_heards MO_time))]) [0] rfl
          refine vp_callSi (va_runV (As := []) (rest := []) ⟨hx, hb, hml, hown, hts⟩ (c_X12_isGood l D cI cB cL cZ cG MO aMO MO_taped MO_size o50_nMO_faultKind o50_nMO_faultPlace MO_at MO_end MO_token MO_number MO_name MO_bank MO_rb MO_codes MO_within MO_piled MO_unitsInRule MO_askThing MO_acts MO_undone MO_laid MO_heards MO_time b_MO_taped b_MO_size (zB_w bo50_nMO_faultKind (by decide) (by decide)) b_MO_at b_MO_end (zB_w be14t_MO_token (by decide) (by decide)) b_MO_bank b_MO_rb b_MO_codes b_MO_within b_MO_piled b_MO_unitsInRule b_MO_askThing b_MO_acts b_MO_undone b_MO_laid b_MO_heards b_MO_time) (cwV 0 hts gX12_numeral_X12_isGood rfl rfl rfl (by decide +kernel) ⟨Nat.le_of_ble_eq_true rfl, Nat.le_of_ble_eq_true rfl⟩) ⟨xr_blind, va_recv hK hP (ci := 12) (q0 := 0) rfl rfl, fun U hU hW => xr_mk hU hW hPc hK⟩ rfl rfl hl.1 rfl (lv_room (Nat.le_of_ble_eq_true rfl)) dX12_numeral_59 ⟨Nat.le_of_ble_eq_true rfl, Nat.le_of_ble_eq_true rfl⟩).run (fun r59 hr59 => ?_)
          clear hPc
          rcases hr59 with ⟨rfl, hr59_0_0⟩ | ⟨rfl, hr59_1_0⟩
          · refine lv_if_eq (tgt := 69) hx hb dX12_numeral_62 (by decide) (fun _ => ?_) (fun c62 => absurd (by decide) c62)
            refine lv_aload_n hx hb dX12_numeral_69 rfl (lv_at hl 1 rfl) ?_
            have hPc := hP.sub (ws' := [(MO, .inr (12, oX12 aMO MO_taped MO_size o50_nMO_faultKind o50_nMO_faultPlace MO_at MO_end MO_token MO_number MO_name MO_bank MO_rb MO_codes MO_within MO_piled MO_unitsInRule MO_askThing MO_acts MO_undone MO_laid MO_heards MO_time))]) [0] rfl
            refine vp_callSi (va_runV (As := []) (rest := []) ⟨hx, hb, hml, hown, hts⟩ (c_X12_isGood l D cI cB cL cZ cG MO aMO MO_taped MO_size o50_nMO_faultKind o50_nMO_faultPlace MO_at MO_end MO_token MO_number MO_name MO_bank MO_rb MO_codes MO_within MO_piled MO_unitsInRule MO_askThing MO_acts MO_undone MO_laid MO_heards MO_time b_MO_taped b_MO_size (zB_w hr59_0_0 (by decide) (by decide)) b_MO_at b_MO_end (zB_w be14t_MO_token (by decide) (by decide)) b_MO_bank b_MO_rb b_MO_codes b_MO_within b_MO_piled b_MO_unitsInRule b_MO_askThing b_MO_acts b_MO_undone b_MO_laid b_MO_heards b_MO_time) (cwV 0 hts gX12_numeral_X12_isGood rfl rfl rfl (by decide +kernel) ⟨Nat.le_of_ble_eq_true rfl, Nat.le_of_ble_eq_true rfl⟩) ⟨xr_blind, va_recv hK hP (ci := 12) (q0 := 0) rfl rfl, fun U hU hW => xr_mk hU hW hPc hK⟩ rfl rfl hl.1 rfl (lv_room (Nat.le_of_ble_eq_true rfl)) dX12_numeral_70 ⟨Nat.le_of_ble_eq_true rfl, Nat.le_of_ble_eq_true rfl⟩).run (fun r70 hr70 => ?_)
            clear hPc
            rcases hr70 with ⟨rfl, hr70_0_0⟩ | ⟨rfl, hr70_1_0⟩
            · refine lv_if_eq (tgt := 80) hx hb dX12_numeral_73 (by decide) (fun _ => ?_) (fun c73 => absurd (by decide) c73)
              refine lv_iload_n hx hb dX12_numeral_80 rfl (lv_at hl 2 rfl) ?_
              exact W.iret (v := x0) hx hb hr (fun t ht hW => ⟨⟨x0, x0, rfl, ⟨rfl, (zB_w b_x0 (by decide) (by decide))⟩, ⟨o50_nMO_faultKind, o50_nMO_faultPlace, MO_at, MO_end, MO_token, MO_number, MO_name, (zB_w hr70_0_0 (by decide) (by decide)), b_MO_at, b_MO_end, (zB_w be14t_MO_token (by decide) (by decide)), (by have h9_0 := (congrArg Int32.toInt c14); have h9_1 := (show (4 : Int32).toInt = 4 from by decide); have h9_2 := (b_MO_end).1; have h9_3 := (b_MO_end).2; have h9_4 := (be14t_MO_token).1; have h9_5 := (be14t_MO_token).2; have h9_6 := (show (0 : Int32).toInt = 0 from by decide); have h9_7 := (show (1 : Int32).toInt = 1 from by decide); have h9_8 := (show ((-1) : Int32).toInt = (-1) from by decide); omega), (by have h9_0 := (hr22_1_0).1; have h9_1 := (hr22_1_0).2; have h9_2 := (hr70_0_0).1; have h9_3 := (hr70_0_0).2; have h9_4 := (show (0 : Int32).toInt = 0 from by decide); have h9_5 := (show (1 : Int32).toInt = 1 from by decide); have h9_6 := (show ((-1) : Int32).toInt = (-1) from by decide); omega), (by have h9_0 := (zl c33); have h9_1 := (bx33t_MO_number).1; have h9_2 := (bx33t_MO_number).2; have h9_3 := (b_x0).1; have h9_4 := (b_x0).2; have h9_5 := (b_x1).1; have h9_6 := (b_x1).2; have h9_7 := (show (0 : Int32).toInt = 0 from by decide); have h9_8 := (show (1 : Int32).toInt = 1 from by decide); have h9_9 := (show ((-1) : Int32).toInt = (-1) from by decide); omega), by rw [ht]; exact hP, hD⟩⟩, hS.F ht⟩) hS.2.2 dX12_numeral_81
            · exact zB_no (a := 1) (b := 0) (zB_meet hr70_1_0 hr59_0_0 (by decide) (by decide)) (by decide)
          · exact zB_no (a := 1) (b := 0) (zB_meet hr59_1_0 bo50_nMO_faultKind (by decide) (by decide)) (by decide)
        · have by33f_MO_number : zB MO_number 0 2147483647 := zB_lev (zg c33) b_x0 (zB_top MO_number) (by decide)
          refine lv_aload_n hx hb dX12_numeral_36 rfl (lv_at hl 0 rfl) ?_
          refine va_get (D := D) (ci := 12) (v := .int MO_number) (C := RX12) (T := TX12) (N := 71) hx hb hts iw_X12_numeral_X12 hown hK hP 0 rfl rfl 9 (by decide) (hts (.fieldLink RX12 241 "SoldHouseModel" "number" "I") (List.mem_of_getElem? (i := 2) rfl)) (fun _ h9 => h9) rfl dX12_numeral_37 ?_
          refine lv_iload_n hx hb dX12_numeral_40 rfl (lv_at hl 2 rfl) ?_
          refine lv_icmp_le (tgt := 53) hx hb dX12_numeral_41 (by decide) (fun c41 => ?_) (fun c41 => ?_)
          · have bx41t_MO_number : zB MO_number 0 999 := zB_leu (ze c41) by33f_MO_number b_x1 (by decide)
            refine lv_aload_n hx hb dX12_numeral_53 rfl (lv_at hl 0 rfl) ?_
            refine va_get (D := D) (ci := 12) (v := .int MO_number) (C := RX12) (T := TX12) (N := 71) hx hb hts iw_X12_numeral_X12 hown hK hP 0 rfl rfl 9 (by decide) (hts (.fieldLink RX12 241 "SoldHouseModel" "number" "I") (List.mem_of_getElem? (i := 2) rfl)) (fun _ h9 => h9) rfl dX12_numeral_54 ?_
            refine lv_istore_n (lv' := [(3, .int MO_number), (0, .ref MO), (1, .int x0), (2, .int x1)]) hx hb dX12_numeral_57 rfl hl (by decide) rfl (fun ls hl => ?_)
            refine lv_aload_n hx hb dX12_numeral_58 rfl (lv_at hl 1 rfl) ?_
            have hPc := hP.sub (ws' := [(MO, .inr (12, oX12 aMO MO_taped MO_size MO_faultKind MO_faultPlace MO_at MO_end MO_token MO_number MO_name MO_bank MO_rb MO_codes MO_within MO_piled MO_unitsInRule MO_askThing MO_acts MO_undone MO_laid MO_heards MO_time))]) [0] rfl
            refine vp_callSi (va_runV (As := []) (rest := []) ⟨hx, hb, hml, hown, hts⟩ (c_X12_isGood l D cI cB cL cZ cG MO aMO MO_taped MO_size MO_faultKind MO_faultPlace MO_at MO_end MO_token MO_number MO_name MO_bank MO_rb MO_codes MO_within MO_piled MO_unitsInRule MO_askThing MO_acts MO_undone MO_laid MO_heards MO_time b_MO_taped b_MO_size (zB_w hr22_1_0 (by decide) (by decide)) b_MO_at b_MO_end (zB_w be14t_MO_token (by decide) (by decide)) b_MO_bank b_MO_rb b_MO_codes b_MO_within b_MO_piled b_MO_unitsInRule b_MO_askThing b_MO_acts b_MO_undone b_MO_laid b_MO_heards b_MO_time) (cwV 0 hts gX12_numeral_X12_isGood rfl rfl rfl (by decide +kernel) ⟨Nat.le_of_ble_eq_true rfl, Nat.le_of_ble_eq_true rfl⟩) ⟨xr_blind, va_recv hK hP (ci := 12) (q0 := 0) rfl rfl, fun U hU hW => xr_mk hU hW hPc hK⟩ rfl rfl hl.1 rfl (lv_room (Nat.le_of_ble_eq_true rfl)) dX12_numeral_59 ⟨Nat.le_of_ble_eq_true rfl, Nat.le_of_ble_eq_true rfl⟩).run (fun r59 hr59 => ?_)
            clear hPc
            rcases hr59 with ⟨rfl, hr59_0_0⟩ | ⟨rfl, hr59_1_0⟩
            · exact zB_no (a := 1) (b := 0) (zB_meet hr59_0_0 hr22_1_0 (by decide) (by decide)) (by decide)
            · refine lv_if_eq (tgt := 69) hx hb dX12_numeral_62 (by decide) (fun c62 => absurd c62 (by decide)) (fun _ => ?_)
              refine lv_aload_n hx hb dX12_numeral_65 rfl (lv_at hl 1 rfl) ?_
              have hPc := hP.sub (ws' := [(MO, .inr (12, oX12 aMO MO_taped MO_size MO_faultKind MO_faultPlace MO_at MO_end MO_token MO_number MO_name MO_bank MO_rb MO_codes MO_within MO_piled MO_unitsInRule MO_askThing MO_acts MO_undone MO_laid MO_heards MO_time)), ((aMO 1), .inl (cB, 1600, .inl MO_text))]) [0, 1] rfl
              have hDc := hD.sub (ws' := [(MO, .inr (12, oX12 aMO MO_taped MO_size MO_faultKind MO_faultPlace MO_at MO_end MO_token MO_number MO_name MO_bank MO_rb MO_codes MO_within MO_piled MO_unitsInRule MO_askThing MO_acts MO_undone MO_laid MO_heards MO_time)), ((aMO 1), .inl (cB, 1600, .inl MO_text))]) [0, 1] (by decide) rfl
              have hFc := va_free (wc := [(MO, .inr (12, oX12 aMO MO_taped MO_size MO_faultKind MO_faultPlace MO_at MO_end MO_token MO_number MO_name MO_bank MO_rb MO_codes MO_within MO_piled MO_unitsInRule MO_askThing MO_acts MO_undone MO_laid MO_heards MO_time)), ((aMO 1), .inl (cB, 1600, .inl MO_text))]) hD hS hA [0, 1] rfl
              refine va_callv (va_runV (As := []) (rest := []) ⟨hx, hb, hml, hown, hts⟩ (c_X12_goOn l D cI cB cL cZ cG MO aMO MO_taped MO_size MO_faultKind MO_faultPlace MO_at MO_end MO_token MO_number MO_name MO_bank MO_rb MO_codes MO_within MO_piled MO_unitsInRule MO_askThing MO_acts MO_undone MO_laid MO_heards MO_time MO_text H.size b_MO_taped b_MO_size (zB_w hr59_1_0 (by decide) (by decide)) b_MO_at b_MO_end (zB_w be14t_MO_token (by decide) (by decide)) b_MO_bank b_MO_rb b_MO_codes b_MO_within b_MO_piled b_MO_unitsInRule b_MO_askThing b_MO_acts b_MO_undone b_MO_laid b_MO_heards b_MO_time) (cwV 0 hts gX12_numeral_X12_goOn rfl rfl rfl (by decide +kernel) ⟨Nat.le_of_ble_eq_true rfl, Nat.le_of_ble_eq_true rfl⟩) ⟨xp_blind, va_recv hK hP (ci := 12) (q0 := 0) rfl rfl, fun U hU hW => xp_mk hU hW hPc hK hDc xNw_nil⟩ rfl rfl hl.1 rfl (lv_room (Nat.le_of_ble_eq_true rfl)) dX12_numeral_66 ⟨Nat.le_of_ble_eq_true rfl, Nat.le_of_ble_eq_true rfl⟩) hS (fun q _ h => hFc q h) hFc (fun u9 t9 H1 locs ht9 hvm9 hr66 hB9 hz9 hk9 hS => ?_)
              obtain ⟨o66_nMO_at, o66_nMO_end, o66_nMO_token, o66_nMO_number, o66_nMO_name, bo66_nMO_at, bo66_nMO_end, bo66_nMO_token, p66_m2, hP1, hD1⟩ := hB9
              rw [ht9] at hP1
              obtain ⟨hP, hD⟩ := va_join (wr := []) (w1 := [(MO, .inr (12, oX12 aMO MO_taped MO_size MO_faultKind MO_faultPlace o66_nMO_at o66_nMO_end o66_nMO_token o66_nMO_number o66_nMO_name MO_bank MO_rb MO_codes MO_within MO_piled MO_unitsInRule MO_askThing MO_acts MO_undone MO_laid MO_heards MO_time)), ((aMO 1), .inl (cB, 1600, .inl MO_text))]) hP hD [0, 1] [] rfl rfl (by decide) (by decide) hk9 hFc hP1 hD1
              clear hz9 hPc hDc hP1 hD1 hk9 hFc ht9 hvm9 u9 t9
              generalize H1 = H at hP hS ⊢
              replace hP : va_P D classes [(MO, .inr (12, oX12 aMO MO_taped MO_size MO_faultKind MO_faultPlace o66_nMO_at o66_nMO_end o66_nMO_token o66_nMO_number o66_nMO_name MO_bank MO_rb MO_codes MO_within MO_piled MO_unitsInRule MO_askThing MO_acts MO_undone MO_laid MO_heards MO_time)), ((aMO 1), .inl (cB, 1600, .inl MO_text))] H := hP
              replace hD : va_D A [(MO, .inr (12, oX12 aMO MO_taped MO_size MO_faultKind MO_faultPlace o66_nMO_at o66_nMO_end o66_nMO_token o66_nMO_number o66_nMO_name MO_bank MO_rb MO_codes MO_within MO_piled MO_unitsInRule MO_askThing MO_acts MO_undone MO_laid MO_heards MO_time)), ((aMO 1), .inl (cB, 1600, .inl MO_text))] := hD
              refine lv_aload_n hx hb dX12_numeral_69 rfl (lv_at hl 1 rfl) ?_
              have hPc := hP.sub (ws' := [(MO, .inr (12, oX12 aMO MO_taped MO_size MO_faultKind MO_faultPlace o66_nMO_at o66_nMO_end o66_nMO_token o66_nMO_number o66_nMO_name MO_bank MO_rb MO_codes MO_within MO_piled MO_unitsInRule MO_askThing MO_acts MO_undone MO_laid MO_heards MO_time))]) [0] rfl
              refine vp_callSi (va_runV (As := []) (rest := []) ⟨hx, hb, hml, hown, hts⟩ (c_X12_isGood l D cI cB cL cZ cG MO aMO MO_taped MO_size MO_faultKind MO_faultPlace o66_nMO_at o66_nMO_end o66_nMO_token o66_nMO_number o66_nMO_name MO_bank MO_rb MO_codes MO_within MO_piled MO_unitsInRule MO_askThing MO_acts MO_undone MO_laid MO_heards MO_time b_MO_taped b_MO_size (zB_w hr59_1_0 (by decide) (by decide)) bo66_nMO_at bo66_nMO_end bo66_nMO_token b_MO_bank b_MO_rb b_MO_codes b_MO_within b_MO_piled b_MO_unitsInRule b_MO_askThing b_MO_acts b_MO_undone b_MO_laid b_MO_heards b_MO_time) (cwV 0 hts gX12_numeral_X12_isGood rfl rfl rfl (by decide +kernel) ⟨Nat.le_of_ble_eq_true rfl, Nat.le_of_ble_eq_true rfl⟩) ⟨xr_blind, va_recv hK hP (ci := 12) (q0 := 0) rfl rfl, fun U hU hW => xr_mk hU hW hPc hK⟩ rfl rfl hl.1 rfl (lv_room (Nat.le_of_ble_eq_true rfl)) dX12_numeral_70 ⟨Nat.le_of_ble_eq_true rfl, Nat.le_of_ble_eq_true rfl⟩).run (fun r70 hr70 => ?_)
              clear hPc
              rcases hr70 with ⟨rfl, hr70_0_0⟩ | ⟨rfl, hr70_1_0⟩
              · exact zB_no (a := 1) (b := 0) (zB_meet hr70_0_0 hr59_1_0 (by decide) (by decide)) (by decide)
              · refine lv_if_eq (tgt := 80) hx hb dX12_numeral_73 (by decide) (fun c73 => absurd c73 (by decide)) (fun _ => ?_)
                refine lv_iload_n hx hb dX12_numeral_76 rfl (lv_at hl 0 rfl) ?_
                refine lv_goto (tgt := 81) hx hb dX12_numeral_77 (by decide) ?_
                exact W.iret (v := MO_number) hx hb hr (fun t ht hW => ⟨⟨MO_number, MO_number, rfl, ⟨rfl, bx41t_MO_number⟩, ⟨MO_faultKind, MO_faultPlace, o66_nMO_at, o66_nMO_end, o66_nMO_token, o66_nMO_number, o66_nMO_name, (zB_w hr70_1_0 (by decide) (by decide)), bo66_nMO_at, bo66_nMO_end, bo66_nMO_token, (by have h9_0 := (congrArg Int32.toInt c14); have h9_1 := p66_m2; have h9_2 := (show (4 : Int32).toInt = 4 from by decide); have h9_3 := (b_MO_end).1; have h9_4 := (b_MO_end).2; have h9_5 := (be14t_MO_token).1; have h9_6 := (be14t_MO_token).2; have h9_7 := (bo66_nMO_end).1; have h9_8 := (bo66_nMO_end).2; have h9_9 := (bo66_nMO_token).1; have h9_10 := (bo66_nMO_token).2; have h9_11 := (show (0 : Int32).toInt = 0 from by decide); have h9_12 := (show (1 : Int32).toInt = 1 from by decide); have h9_13 := (show ((-1) : Int32).toInt = (-1) from by decide); omega), (by have h9_0 := (hr70_1_0).1; have h9_1 := (hr70_1_0).2; have h9_2 := (show (0 : Int32).toInt = 0 from by decide); have h9_3 := (show (1 : Int32).toInt = 1 from by decide); have h9_4 := (show ((-1) : Int32).toInt = (-1) from by decide); omega), (by have h9_0 := (zg c33); have h9_1 := (ze c41); have h9_2 := (bx41t_MO_number).1; have h9_3 := (bx41t_MO_number).2; have h9_4 := (b_x0).1; have h9_5 := (b_x0).2; have h9_6 := (b_x1).1; have h9_7 := (b_x1).2; have h9_8 := (show (0 : Int32).toInt = 0 from by decide); have h9_9 := (show (1 : Int32).toInt = 1 from by decide); have h9_10 := (show ((-1) : Int32).toInt = (-1) from by decide); omega), by rw [ht]; exact hP, hD⟩⟩, hS.F ht⟩) hS.2.2 dX12_numeral_81
          · have by41f_MO_number : zB MO_number 1 2147483647 := zB_ltv (zf c41) b_x1 by33f_MO_number (by decide)
            refine lv_aload_n hx hb dX12_numeral_44 rfl (lv_at hl 0 rfl) ?_
            refine lv_iconst (v := 4) hx hb dX12_numeral_45 (by decide) ?_
            refine lv_aload_n hx hb dX12_numeral_46 rfl (lv_at hl 0 rfl) ?_
            refine va_get (D := D) (ci := 12) (v := .int MO_at) (C := RX12) (T := TX12) (N := 71) hx hb hts iw_X12_numeral_X12 hown hK hP 0 rfl rfl 6 (by decide) (hts (.fieldLink RX12 216 "SoldHouseModel" "at" "I") (List.mem_of_getElem? (i := 3) rfl)) (fun _ h9 => h9) rfl dX12_numeral_47 ?_
            have hPc := hP.sub (ws' := [(MO, .inr (12, oX12 aMO MO_taped MO_size MO_faultKind MO_faultPlace MO_at MO_end MO_token MO_number MO_name MO_bank MO_rb MO_codes MO_within MO_piled MO_unitsInRule MO_askThing MO_acts MO_undone MO_laid MO_heards MO_time))]) [0] rfl
            have hDc := hD.sub (ws' := [(MO, .inr (12, oX12 aMO MO_taped MO_size MO_faultKind MO_faultPlace MO_at MO_end MO_token MO_number MO_name MO_bank MO_rb MO_codes MO_within MO_piled MO_unitsInRule MO_askThing MO_acts MO_undone MO_laid MO_heards MO_time))]) [0] (by decide) rfl
            have hFc := va_free (wc := [(MO, .inr (12, oX12 aMO MO_taped MO_size MO_faultKind MO_faultPlace MO_at MO_end MO_token MO_number MO_name MO_bank MO_rb MO_codes MO_within MO_piled MO_unitsInRule MO_askThing MO_acts MO_undone MO_laid MO_heards MO_time))]) hD hS hA [0] rfl
            refine va_callv (va_runV (As := [.int 4, .int MO_at]) (rest := []) ⟨hx, hb, hml, hown, hts⟩ (c_X12_fails l D cI cB cL cZ cG MO 4 MO_at aMO MO_taped MO_size MO_faultKind MO_faultPlace MO_at MO_end MO_token MO_number MO_name MO_bank MO_rb MO_codes MO_within MO_piled MO_unitsInRule MO_askThing MO_acts MO_undone MO_laid MO_heards MO_time H.size (zB_w (show zB 4 4 4 from ⟨by decide, by decide⟩) (by decide) (by decide)) b_MO_taped b_MO_size (zB_w hr22_1_0 (by decide) (by decide)) b_MO_at b_MO_end (zB_w be14t_MO_token (by decide) (by decide)) b_MO_bank b_MO_rb b_MO_codes b_MO_within b_MO_piled b_MO_unitsInRule b_MO_askThing b_MO_acts b_MO_undone b_MO_laid b_MO_heards b_MO_time) (cwV 2 hts gX12_numeral_X12_fails rfl rfl rfl (by decide +kernel) ⟨Nat.le_of_ble_eq_true rfl, Nat.le_of_ble_eq_true rfl⟩) ⟨xp_blind, va_recv hK hP (ci := 12) (q0 := 0) rfl rfl, fun U hU hW => xp_mk hU hW hPc hK hDc xNw_nil⟩ rfl rfl hl.1 rfl (lv_room (Nat.le_of_ble_eq_true rfl)) dX12_numeral_50 ⟨Nat.le_of_ble_eq_true rfl, Nat.le_of_ble_eq_true rfl⟩) hS (fun q _ h => hFc q h) hFc (fun u9 t9 H1 locs ht9 hvm9 hr50 hB9 hz9 hk9 hS => ?_)
            obtain ⟨o50_nMO_faultKind, o50_nMO_faultPlace, bo50_nMO_faultKind, hP1, hD1⟩ := hB9
            rw [ht9] at hP1
            obtain ⟨hP, hD⟩ := va_join (wr := [((aMO 1), .inl (cB, 1600, .inl MO_text))]) (w1 := [(MO, .inr (12, oX12 aMO MO_taped MO_size o50_nMO_faultKind o50_nMO_faultPlace MO_at MO_end MO_token MO_number MO_name MO_bank MO_rb MO_codes MO_within MO_piled MO_unitsInRule MO_askThing MO_acts MO_undone MO_laid MO_heards MO_time))]) hP hD [0] [1] rfl rfl (by decide) (by decide) hk9 hFc hP1 hD1
            clear hz9 hPc hDc hP1 hD1 hk9 hFc ht9 hvm9 u9 t9
            generalize H1 = H at hP hS ⊢
            replace hP : va_P D classes [(MO, .inr (12, oX12 aMO MO_taped MO_size o50_nMO_faultKind o50_nMO_faultPlace MO_at MO_end MO_token MO_number MO_name MO_bank MO_rb MO_codes MO_within MO_piled MO_unitsInRule MO_askThing MO_acts MO_undone MO_laid MO_heards MO_time)), ((aMO 1), .inl (cB, 1600, .inl MO_text))] H := hP.sub [1, 0] rfl
            replace hD : va_D A [(MO, .inr (12, oX12 aMO MO_taped MO_size o50_nMO_faultKind o50_nMO_faultPlace MO_at MO_end MO_token MO_number MO_name MO_bank MO_rb MO_codes MO_within MO_piled MO_unitsInRule MO_askThing MO_acts MO_undone MO_laid MO_heards MO_time)), ((aMO 1), .inl (cB, 1600, .inl MO_text))] := hD.sub [1, 0] (by decide) rfl
            refine lv_aload_n hx hb dX12_numeral_53 rfl (lv_at hl 0 rfl) ?_
            refine va_get (D := D) (ci := 12) (v := .int MO_number) (C := RX12) (T := TX12) (N := 71) hx hb hts iw_X12_numeral_X12 hown hK hP 0 rfl rfl 9 (by decide) (hts (.fieldLink RX12 241 "SoldHouseModel" "number" "I") (List.mem_of_getElem? (i := 2) rfl)) (fun _ h9 => h9) rfl dX12_numeral_54 ?_
            refine lv_istore_n (lv' := [(3, .int MO_number), (0, .ref MO), (1, .int x0), (2, .int x1)]) hx hb dX12_numeral_57 rfl hl (by decide) rfl (fun ls hl => ?_)
            refine lv_aload_n hx hb dX12_numeral_58 rfl (lv_at hl 1 rfl) ?_
            have hPc := hP.sub (ws' := [(MO, .inr (12, oX12 aMO MO_taped MO_size o50_nMO_faultKind o50_nMO_faultPlace MO_at MO_end MO_token MO_number MO_name MO_bank MO_rb MO_codes MO_within MO_piled MO_unitsInRule MO_askThing MO_acts MO_undone MO_laid MO_heards MO_time))]) [0] rfl
            refine vp_callSi (va_runV (As := []) (rest := []) ⟨hx, hb, hml, hown, hts⟩ (c_X12_isGood l D cI cB cL cZ cG MO aMO MO_taped MO_size o50_nMO_faultKind o50_nMO_faultPlace MO_at MO_end MO_token MO_number MO_name MO_bank MO_rb MO_codes MO_within MO_piled MO_unitsInRule MO_askThing MO_acts MO_undone MO_laid MO_heards MO_time b_MO_taped b_MO_size (zB_w bo50_nMO_faultKind (by decide) (by decide)) b_MO_at b_MO_end (zB_w be14t_MO_token (by decide) (by decide)) b_MO_bank b_MO_rb b_MO_codes b_MO_within b_MO_piled b_MO_unitsInRule b_MO_askThing b_MO_acts b_MO_undone b_MO_laid b_MO_heards b_MO_time) (cwV 0 hts gX12_numeral_X12_isGood rfl rfl rfl (by decide +kernel) ⟨Nat.le_of_ble_eq_true rfl, Nat.le_of_ble_eq_true rfl⟩) ⟨xr_blind, va_recv hK hP (ci := 12) (q0 := 0) rfl rfl, fun U hU hW => xr_mk hU hW hPc hK⟩ rfl rfl hl.1 rfl (lv_room (Nat.le_of_ble_eq_true rfl)) dX12_numeral_59 ⟨Nat.le_of_ble_eq_true rfl, Nat.le_of_ble_eq_true rfl⟩).run (fun r59 hr59 => ?_)
            clear hPc
            rcases hr59 with ⟨rfl, hr59_0_0⟩ | ⟨rfl, hr59_1_0⟩
            · refine lv_if_eq (tgt := 69) hx hb dX12_numeral_62 (by decide) (fun _ => ?_) (fun c62 => absurd (by decide) c62)
              refine lv_aload_n hx hb dX12_numeral_69 rfl (lv_at hl 1 rfl) ?_
              have hPc := hP.sub (ws' := [(MO, .inr (12, oX12 aMO MO_taped MO_size o50_nMO_faultKind o50_nMO_faultPlace MO_at MO_end MO_token MO_number MO_name MO_bank MO_rb MO_codes MO_within MO_piled MO_unitsInRule MO_askThing MO_acts MO_undone MO_laid MO_heards MO_time))]) [0] rfl
              refine vp_callSi (va_runV (As := []) (rest := []) ⟨hx, hb, hml, hown, hts⟩ (c_X12_isGood l D cI cB cL cZ cG MO aMO MO_taped MO_size o50_nMO_faultKind o50_nMO_faultPlace MO_at MO_end MO_token MO_number MO_name MO_bank MO_rb MO_codes MO_within MO_piled MO_unitsInRule MO_askThing MO_acts MO_undone MO_laid MO_heards MO_time b_MO_taped b_MO_size (zB_w hr59_0_0 (by decide) (by decide)) b_MO_at b_MO_end (zB_w be14t_MO_token (by decide) (by decide)) b_MO_bank b_MO_rb b_MO_codes b_MO_within b_MO_piled b_MO_unitsInRule b_MO_askThing b_MO_acts b_MO_undone b_MO_laid b_MO_heards b_MO_time) (cwV 0 hts gX12_numeral_X12_isGood rfl rfl rfl (by decide +kernel) ⟨Nat.le_of_ble_eq_true rfl, Nat.le_of_ble_eq_true rfl⟩) ⟨xr_blind, va_recv hK hP (ci := 12) (q0 := 0) rfl rfl, fun U hU hW => xr_mk hU hW hPc hK⟩ rfl rfl hl.1 rfl (lv_room (Nat.le_of_ble_eq_true rfl)) dX12_numeral_70 ⟨Nat.le_of_ble_eq_true rfl, Nat.le_of_ble_eq_true rfl⟩).run (fun r70 hr70 => ?_)
              clear hPc
              rcases hr70 with ⟨rfl, hr70_0_0⟩ | ⟨rfl, hr70_1_0⟩
              · refine lv_if_eq (tgt := 80) hx hb dX12_numeral_73 (by decide) (fun _ => ?_) (fun c73 => absurd (by decide) c73)
                refine lv_iload_n hx hb dX12_numeral_80 rfl (lv_at hl 2 rfl) ?_
                exact W.iret (v := x0) hx hb hr (fun t ht hW => ⟨⟨x0, x0, rfl, ⟨rfl, (zB_w b_x0 (by decide) (by decide))⟩, ⟨o50_nMO_faultKind, o50_nMO_faultPlace, MO_at, MO_end, MO_token, MO_number, MO_name, (zB_w hr70_0_0 (by decide) (by decide)), b_MO_at, b_MO_end, (zB_w be14t_MO_token (by decide) (by decide)), (by have h9_0 := (congrArg Int32.toInt c14); have h9_1 := (show (4 : Int32).toInt = 4 from by decide); have h9_2 := (b_MO_end).1; have h9_3 := (b_MO_end).2; have h9_4 := (be14t_MO_token).1; have h9_5 := (be14t_MO_token).2; have h9_6 := (show (0 : Int32).toInt = 0 from by decide); have h9_7 := (show (1 : Int32).toInt = 1 from by decide); have h9_8 := (show ((-1) : Int32).toInt = (-1) from by decide); omega), (by have h9_0 := (hr22_1_0).1; have h9_1 := (hr22_1_0).2; have h9_2 := (hr70_0_0).1; have h9_3 := (hr70_0_0).2; have h9_4 := (show (0 : Int32).toInt = 0 from by decide); have h9_5 := (show (1 : Int32).toInt = 1 from by decide); have h9_6 := (show ((-1) : Int32).toInt = (-1) from by decide); omega), (by have h9_0 := (zg c33); have h9_1 := (zf c41); have h9_2 := (by41f_MO_number).1; have h9_3 := (by41f_MO_number).2; have h9_4 := (b_x0).1; have h9_5 := (b_x0).2; have h9_6 := (b_x1).1; have h9_7 := (b_x1).2; have h9_8 := (show (0 : Int32).toInt = 0 from by decide); have h9_9 := (show (1 : Int32).toInt = 1 from by decide); have h9_10 := (show ((-1) : Int32).toInt = (-1) from by decide); omega), by rw [ht]; exact hP, hD⟩⟩, hS.F ht⟩) hS.2.2 dX12_numeral_81
              · exact zB_no (a := 1) (b := 0) (zB_meet hr70_1_0 hr59_0_0 (by decide) (by decide)) (by decide)
            · exact zB_no (a := 1) (b := 0) (zB_meet hr59_1_0 bo50_nMO_faultKind (by decide) (by decide)) (by decide)
    · refine lv_aload_n hx hb dX12_numeral_17 rfl (lv_at hl 0 rfl) ?_
      have hPc := hP.sub (ws' := [(MO, .inr (12, oX12 aMO MO_taped MO_size MO_faultKind MO_faultPlace MO_at MO_end MO_token MO_number MO_name MO_bank MO_rb MO_codes MO_within MO_piled MO_unitsInRule MO_askThing MO_acts MO_undone MO_laid MO_heards MO_time))]) [0] rfl
      have hDc := hD.sub (ws' := [(MO, .inr (12, oX12 aMO MO_taped MO_size MO_faultKind MO_faultPlace MO_at MO_end MO_token MO_number MO_name MO_bank MO_rb MO_codes MO_within MO_piled MO_unitsInRule MO_askThing MO_acts MO_undone MO_laid MO_heards MO_time))]) [0] (by decide) rfl
      have hFc := va_free (wc := [(MO, .inr (12, oX12 aMO MO_taped MO_size MO_faultKind MO_faultPlace MO_at MO_end MO_token MO_number MO_name MO_bank MO_rb MO_codes MO_within MO_piled MO_unitsInRule MO_askThing MO_acts MO_undone MO_laid MO_heards MO_time))]) hD hS hA [0] rfl
      refine va_callv (va_runV (As := []) (rest := []) ⟨hx, hb, hml, hown, hts⟩ (c_X12_misplaced l D cI cB cL cZ cG MO aMO MO_taped MO_size MO_faultKind MO_faultPlace MO_at MO_end MO_token MO_number MO_name MO_bank MO_rb MO_codes MO_within MO_piled MO_unitsInRule MO_askThing MO_acts MO_undone MO_laid MO_heards MO_time H.size b_MO_taped b_MO_size (zB_w hr1_1_0 (by decide) (by decide)) b_MO_at b_MO_end b_MO_token b_MO_bank b_MO_rb b_MO_codes b_MO_within b_MO_piled b_MO_unitsInRule b_MO_askThing b_MO_acts b_MO_undone b_MO_laid b_MO_heards b_MO_time) (cwV 0 hts gX12_numeral_X12_misplaced rfl rfl rfl (by decide +kernel) ⟨Nat.le_of_ble_eq_true rfl, Nat.le_of_ble_eq_true rfl⟩) ⟨xp_blind, va_recv hK hP (ci := 12) (q0 := 0) rfl rfl, fun U hU hW => xp_mk hU hW hPc hK hDc xNw_nil⟩ rfl rfl hl.1 rfl (lv_room (Nat.le_of_ble_eq_true rfl)) dX12_numeral_18 ⟨Nat.le_of_ble_eq_true rfl, Nat.le_of_ble_eq_true rfl⟩) hS (fun q _ h => hFc q h) hFc (fun u9 t9 H1 locs ht9 hvm9 hr18 hB9 hz9 hk9 hS => ?_)
      obtain ⟨o18_nMO_faultKind, o18_nMO_faultPlace, bo18_nMO_faultKind, hP1, hD1⟩ := hB9
      rw [ht9] at hP1
      obtain ⟨hP, hD⟩ := va_join (wr := [((aMO 1), .inl (cB, 1600, .inl MO_text))]) (w1 := [(MO, .inr (12, oX12 aMO MO_taped MO_size o18_nMO_faultKind o18_nMO_faultPlace MO_at MO_end MO_token MO_number MO_name MO_bank MO_rb MO_codes MO_within MO_piled MO_unitsInRule MO_askThing MO_acts MO_undone MO_laid MO_heards MO_time))]) hP hD [0] [1] rfl rfl (by decide) (by decide) hk9 hFc hP1 hD1
      clear hz9 hPc hDc hP1 hD1 hk9 hFc ht9 hvm9 u9 t9
      generalize H1 = H at hP hS ⊢
      replace hP : va_P D classes [(MO, .inr (12, oX12 aMO MO_taped MO_size o18_nMO_faultKind o18_nMO_faultPlace MO_at MO_end MO_token MO_number MO_name MO_bank MO_rb MO_codes MO_within MO_piled MO_unitsInRule MO_askThing MO_acts MO_undone MO_laid MO_heards MO_time)), ((aMO 1), .inl (cB, 1600, .inl MO_text))] H := hP.sub [1, 0] rfl
      replace hD : va_D A [(MO, .inr (12, oX12 aMO MO_taped MO_size o18_nMO_faultKind o18_nMO_faultPlace MO_at MO_end MO_token MO_number MO_name MO_bank MO_rb MO_codes MO_within MO_piled MO_unitsInRule MO_askThing MO_acts MO_undone MO_laid MO_heards MO_time)), ((aMO 1), .inl (cB, 1600, .inl MO_text))] := hD.sub [1, 0] (by decide) rfl
      refine lv_aload_n hx hb dX12_numeral_21 rfl (lv_at hl 0 rfl) ?_
      have hPc := hP.sub (ws' := [(MO, .inr (12, oX12 aMO MO_taped MO_size o18_nMO_faultKind o18_nMO_faultPlace MO_at MO_end MO_token MO_number MO_name MO_bank MO_rb MO_codes MO_within MO_piled MO_unitsInRule MO_askThing MO_acts MO_undone MO_laid MO_heards MO_time))]) [0] rfl
      refine vp_callSi (va_runV (As := []) (rest := []) ⟨hx, hb, hml, hown, hts⟩ (c_X12_isGood l D cI cB cL cZ cG MO aMO MO_taped MO_size o18_nMO_faultKind o18_nMO_faultPlace MO_at MO_end MO_token MO_number MO_name MO_bank MO_rb MO_codes MO_within MO_piled MO_unitsInRule MO_askThing MO_acts MO_undone MO_laid MO_heards MO_time b_MO_taped b_MO_size (zB_w bo18_nMO_faultKind (by decide) (by decide)) b_MO_at b_MO_end b_MO_token b_MO_bank b_MO_rb b_MO_codes b_MO_within b_MO_piled b_MO_unitsInRule b_MO_askThing b_MO_acts b_MO_undone b_MO_laid b_MO_heards b_MO_time) (cwV 0 hts gX12_numeral_X12_isGood rfl rfl rfl (by decide +kernel) ⟨Nat.le_of_ble_eq_true rfl, Nat.le_of_ble_eq_true rfl⟩) ⟨xr_blind, va_recv hK hP (ci := 12) (q0 := 0) rfl rfl, fun U hU hW => xr_mk hU hW hPc hK⟩ rfl rfl hl.1 rfl (lv_room (Nat.le_of_ble_eq_true rfl)) dX12_numeral_22 ⟨Nat.le_of_ble_eq_true rfl, Nat.le_of_ble_eq_true rfl⟩).run (fun r22 hr22 => ?_)
      clear hPc
      rcases hr22 with ⟨rfl, hr22_0_0⟩ | ⟨rfl, hr22_1_0⟩
      · refine lv_if_eq (tgt := 53) hx hb dX12_numeral_25 (by decide) (fun _ => ?_) (fun c25 => absurd (by decide) c25)
        refine lv_aload_n hx hb dX12_numeral_53 rfl (lv_at hl 0 rfl) ?_
        refine va_get (D := D) (ci := 12) (v := .int MO_number) (C := RX12) (T := TX12) (N := 71) hx hb hts iw_X12_numeral_X12 hown hK hP 0 rfl rfl 9 (by decide) (hts (.fieldLink RX12 241 "SoldHouseModel" "number" "I") (List.mem_of_getElem? (i := 2) rfl)) (fun _ h9 => h9) rfl dX12_numeral_54 ?_
        refine lv_istore_n (lv' := [(3, .int MO_number), (0, .ref MO), (1, .int x0), (2, .int x1)]) hx hb dX12_numeral_57 rfl hl (by decide) rfl (fun ls hl => ?_)
        refine lv_aload_n hx hb dX12_numeral_58 rfl (lv_at hl 1 rfl) ?_
        have hPc := hP.sub (ws' := [(MO, .inr (12, oX12 aMO MO_taped MO_size o18_nMO_faultKind o18_nMO_faultPlace MO_at MO_end MO_token MO_number MO_name MO_bank MO_rb MO_codes MO_within MO_piled MO_unitsInRule MO_askThing MO_acts MO_undone MO_laid MO_heards MO_time))]) [0] rfl
        refine vp_callSi (va_runV (As := []) (rest := []) ⟨hx, hb, hml, hown, hts⟩ (c_X12_isGood l D cI cB cL cZ cG MO aMO MO_taped MO_size o18_nMO_faultKind o18_nMO_faultPlace MO_at MO_end MO_token MO_number MO_name MO_bank MO_rb MO_codes MO_within MO_piled MO_unitsInRule MO_askThing MO_acts MO_undone MO_laid MO_heards MO_time b_MO_taped b_MO_size (zB_w hr22_0_0 (by decide) (by decide)) b_MO_at b_MO_end b_MO_token b_MO_bank b_MO_rb b_MO_codes b_MO_within b_MO_piled b_MO_unitsInRule b_MO_askThing b_MO_acts b_MO_undone b_MO_laid b_MO_heards b_MO_time) (cwV 0 hts gX12_numeral_X12_isGood rfl rfl rfl (by decide +kernel) ⟨Nat.le_of_ble_eq_true rfl, Nat.le_of_ble_eq_true rfl⟩) ⟨xr_blind, va_recv hK hP (ci := 12) (q0 := 0) rfl rfl, fun U hU hW => xr_mk hU hW hPc hK⟩ rfl rfl hl.1 rfl (lv_room (Nat.le_of_ble_eq_true rfl)) dX12_numeral_59 ⟨Nat.le_of_ble_eq_true rfl, Nat.le_of_ble_eq_true rfl⟩).run (fun r59 hr59 => ?_)
        clear hPc
        rcases hr59 with ⟨rfl, hr59_0_0⟩ | ⟨rfl, hr59_1_0⟩
        · refine lv_if_eq (tgt := 69) hx hb dX12_numeral_62 (by decide) (fun _ => ?_) (fun c62 => absurd (by decide) c62)
          refine lv_aload_n hx hb dX12_numeral_69 rfl (lv_at hl 1 rfl) ?_
          have hPc := hP.sub (ws' := [(MO, .inr (12, oX12 aMO MO_taped MO_size o18_nMO_faultKind o18_nMO_faultPlace MO_at MO_end MO_token MO_number MO_name MO_bank MO_rb MO_codes MO_within MO_piled MO_unitsInRule MO_askThing MO_acts MO_undone MO_laid MO_heards MO_time))]) [0] rfl
          refine vp_callSi (va_runV (As := []) (rest := []) ⟨hx, hb, hml, hown, hts⟩ (c_X12_isGood l D cI cB cL cZ cG MO aMO MO_taped MO_size o18_nMO_faultKind o18_nMO_faultPlace MO_at MO_end MO_token MO_number MO_name MO_bank MO_rb MO_codes MO_within MO_piled MO_unitsInRule MO_askThing MO_acts MO_undone MO_laid MO_heards MO_time b_MO_taped b_MO_size (zB_w hr59_0_0 (by decide) (by decide)) b_MO_at b_MO_end b_MO_token b_MO_bank b_MO_rb b_MO_codes b_MO_within b_MO_piled b_MO_unitsInRule b_MO_askThing b_MO_acts b_MO_undone b_MO_laid b_MO_heards b_MO_time) (cwV 0 hts gX12_numeral_X12_isGood rfl rfl rfl (by decide +kernel) ⟨Nat.le_of_ble_eq_true rfl, Nat.le_of_ble_eq_true rfl⟩) ⟨xr_blind, va_recv hK hP (ci := 12) (q0 := 0) rfl rfl, fun U hU hW => xr_mk hU hW hPc hK⟩ rfl rfl hl.1 rfl (lv_room (Nat.le_of_ble_eq_true rfl)) dX12_numeral_70 ⟨Nat.le_of_ble_eq_true rfl, Nat.le_of_ble_eq_true rfl⟩).run (fun r70 hr70 => ?_)
          clear hPc
          rcases hr70 with ⟨rfl, hr70_0_0⟩ | ⟨rfl, hr70_1_0⟩
          · refine lv_if_eq (tgt := 80) hx hb dX12_numeral_73 (by decide) (fun _ => ?_) (fun c73 => absurd (by decide) c73)
            refine lv_iload_n hx hb dX12_numeral_80 rfl (lv_at hl 2 rfl) ?_
            exact W.iret (v := x0) hx hb hr (fun t ht hW => ⟨⟨x0, x0, rfl, ⟨rfl, (zB_w b_x0 (by decide) (by decide))⟩, ⟨o18_nMO_faultKind, o18_nMO_faultPlace, MO_at, MO_end, MO_token, MO_number, MO_name, (zB_w hr70_0_0 (by decide) (by decide)), b_MO_at, b_MO_end, b_MO_token, (by have h9_0 := (zne c14); have h9_1 := (show (4 : Int32).toInt = 4 from by decide); have h9_2 := (b_MO_end).1; have h9_3 := (b_MO_end).2; have h9_4 := (b_MO_token).1; have h9_5 := (b_MO_token).2; have h9_6 := (show (0 : Int32).toInt = 0 from by decide); have h9_7 := (show (1 : Int32).toInt = 1 from by decide); have h9_8 := (show ((-1) : Int32).toInt = (-1) from by decide); omega), (by have h9_0 := (hr1_1_0).1; have h9_1 := (hr1_1_0).2; have h9_2 := (hr70_0_0).1; have h9_3 := (hr70_0_0).2; have h9_4 := (show (0 : Int32).toInt = 0 from by decide); have h9_5 := (show (1 : Int32).toInt = 1 from by decide); have h9_6 := (show ((-1) : Int32).toInt = (-1) from by decide); omega), (by have h9_0 := (b_x0).1; have h9_1 := (b_x0).2; have h9_2 := (b_x1).1; have h9_3 := (b_x1).2; have h9_4 := (show (0 : Int32).toInt = 0 from by decide); have h9_5 := (show (1 : Int32).toInt = 1 from by decide); have h9_6 := (show ((-1) : Int32).toInt = (-1) from by decide); omega), by rw [ht]; exact hP, hD⟩⟩, hS.F ht⟩) hS.2.2 dX12_numeral_81
          · exact zB_no (a := 1) (b := 0) (zB_meet hr70_1_0 hr59_0_0 (by decide) (by decide)) (by decide)
        · exact zB_no (a := 1) (b := 0) (zB_meet hr59_1_0 hr22_0_0 (by decide) (by decide)) (by decide)
      · exact zB_no (a := 1) (b := 0) (zB_meet hr22_1_0 bo18_nMO_faultKind (by decide) (by decide)) (by decide)
set_option maxHeartbeats 4000000 in
set_option maxRecDepth 100000 in
theorem c_X12_passes (l : Launch) (D : va_G) (cI : ClassId) (cB : ClassId) (cL : ClassId) (cZ : ClassId) (cG : ClassId) (MO : Nat) (x0 : Int64) (aMO : Nat → Nat) (MO_taped : Int32) (MO_size : Int32) (MO_faultKind : Int32) (MO_faultPlace : Int32) (MO_at : Int32) (MO_end : Int32) (MO_token : Int32) (MO_number : Int32) (MO_name : Int64) (MO_bank : Int32) (MO_rb : Int32) (MO_codes : Int32) (MO_within : Int32) (MO_piled : Int32) (MO_unitsInRule : Int32) (MO_askThing : Int32) (MO_acts : Int32) (MO_undone : Int32) (MO_laid : Int32) (MO_heards : Int32) (MO_time : Int32) (MO_text : Nat → Int32) (sz : Nat) (b_MO_taped : zB MO_taped 0 1600) (b_MO_size : zB MO_size 0 1600) (b_MO_faultKind : zB MO_faultKind 0 5) (b_MO_at : zB MO_at 0 1600) (b_MO_end : zB MO_end 0 1600) (b_MO_token : zB MO_token 0 5) (b_MO_bank : zB MO_bank 0 1) (b_MO_rb : zB MO_rb 0 1) (b_MO_codes : zB MO_codes 0 1120) (b_MO_within : zB MO_within 0 7) (b_MO_piled : zB MO_piled 0 89) (b_MO_unitsInRule : zB MO_unitsInRule 0 30) (b_MO_askThing : zB MO_askThing 0 5) (b_MO_acts : zB MO_acts 0 40) (b_MO_undone : zB MO_undone 0 40) (b_MO_laid : zB MO_laid 0 8) (b_MO_heards : zB MO_heards 0 30) (b_MO_time : zB MO_time 0 100000) : Met l yX12_passes wsX12_passes ({ frames := 2, cells := 0, slots := 0, locals := 44 }) (xp D [(cI, .int), (cB, .byte), (cL, .long), (cZ, .boolean), (cG, .array .int)] [(MO, .inr (12, oX12 aMO MO_taped MO_size MO_faultKind MO_faultPlace MO_at MO_end MO_token MO_number MO_name MO_bank MO_rb MO_codes MO_within MO_piled MO_unitsInRule MO_askThing MO_acts MO_undone MO_laid MO_heards MO_time)), ((aMO 1), .inl (cB, 1600, .inl MO_text))] sz [] [.ref MO, .long x0]) (va_Qi (fun (r : Int32) (u : Int32) => r = u ∧ (zB r 0 1)) (fun (u : Int32) (t : State) => ∃ (nMO_at : Int32), ∃ (nMO_end : Int32), ∃ (nMO_token : Int32), ∃ (nMO_number : Int32), ∃ (nMO_name : Int64), zB nMO_at 0 1600 ∧ zB nMO_end 0 1600 ∧ zB nMO_token 0 5 ∧ (zM nMO_end nMO_token ≤ zM MO_end MO_token) ∧ (MO_faultKind.toInt = 0 → MO_faultKind.toInt = 0) ∧ xB D (va_A [(MO, .inr (12, oX12 aMO MO_taped MO_size MO_faultKind MO_faultPlace MO_at MO_end MO_token MO_number MO_name MO_bank MO_rb MO_codes MO_within MO_piled MO_unitsInRule MO_askThing MO_acts MO_undone MO_laid MO_heards MO_time)), ((aMO 1), .inl (cB, 1600, .inl MO_text))] sz) [(MO, .inr (12, oX12 aMO MO_taped MO_size MO_faultKind MO_faultPlace nMO_at nMO_end nMO_token nMO_number nMO_name MO_bank MO_rb MO_codes MO_within MO_piled MO_unitsInRule MO_askThing MO_acts MO_undone MO_laid MO_heards MO_time)), ((aMO 1), .inl (cB, 1600, .inl MO_text))] t) (va_A [(MO, .inr (12, oX12 aMO MO_taped MO_size MO_faultKind MO_faultPlace MO_at MO_end MO_token MO_number MO_name MO_bank MO_rb MO_codes MO_within MO_piled MO_unitsInRule MO_askThing MO_acts MO_undone MO_laid MO_heards MO_time)), ((aMO 1), .inl (cB, 1600, .inl MO_text))] sz)) 0 0 (va_A [(MO, .inr (12, oX12 aMO MO_taped MO_size MO_faultKind MO_faultPlace MO_at MO_end MO_token MO_number MO_name MO_bank MO_rb MO_codes MO_within MO_piled MO_unitsInRule MO_askThing MO_acts MO_undone MO_laid MO_heards MO_time)), ((aMO 1), .inl (cB, 1600, .inl MO_text))] sz) := by
  refine Met.ofW (cc := cX12_passes) (maxL := 4) (ret := (some .boolean)) (by decide) rfl ?_
  intro p e s m args below meth c s₁ B hml hv
  obtain ⟨rfl, hsz, hP, hK, hD0, hNw⟩ := hv
  have hx := B.exec
  have hb := B.bytes
  have hr := B.returns
  have hts := atoms_spec (ws := wsX12_passes) B.pre
  have hown : s.vm.findClass RX12 = some m.cls := findClass_of_methodNamed B.named
  have hlocks := B.notSynchronized
  clear B
  subst hsz
  have hD := hD0.self (sz := s.heap.size)
  clear hD0 hNw
  generalize hAe : va_A [(MO, .inr (12, oX12 aMO MO_taped MO_size MO_faultKind MO_faultPlace MO_at MO_end MO_token MO_number MO_name MO_bank MO_rb MO_codes MO_within MO_piled MO_unitsInRule MO_askThing MO_acts MO_undone MO_laid MO_heards MO_time)), ((aMO 1), .inl (cB, 1600, .inl MO_text))] s.heap.size = A at hD ⊢
  have hA : ∀ q : Nat, s.heap.size ≤ q → A q := fun q h => by rw [← hAe]; exact Or.inr h
  have hS : va_S A s.heap s.heap [] := va_S.rf
  clear hAe
  obtain ⟨H, hH⟩ : ∃ H : Heap, H = s.heap := ⟨_, rfl⟩
  obtain ⟨locs, hlocs⟩ : ∃ L : List Loc, L = [] := ⟨_, rfl⟩
  replace hP : va_P D classes [(MO, .inr (12, oX12 aMO MO_taped MO_size MO_faultKind MO_faultPlace MO_at MO_end MO_token MO_number MO_name MO_bank MO_rb MO_codes MO_within MO_piled MO_unitsInRule MO_askThing MO_acts MO_undone MO_laid MO_heards MO_time)), ((aMO 1), .inl (cB, 1600, .inl MO_text))] H := by rw [hH]; exact hP
  replace hS : va_S A s.heap H locs := by rw [hH, hlocs]; exact hS
  rw [← hH, ← hlocs]
  clear hlocs hH
  have hl := lv_entry ([.ref MO, .long x0]) (n := 4) (Nat.le_of_ble_eq_true rfl)
  rw [lg_entry_eq]
  generalize (lg_sl ([.ref MO, .long x0]) ++ List.replicate (4 - (lg_sl ([.ref MO, .long x0])).length) Slot.unset).toArray = ls at hl ⊢
  replace hl : lv_has ls 4 [(0, .ref MO), (1, .long x0)] := hl
  refine lv_aload_n hx hb dX12_passes_0 rfl (lv_at hl 0 rfl) ?_
  have hPc := hP.sub (ws' := [(MO, .inr (12, oX12 aMO MO_taped MO_size MO_faultKind MO_faultPlace MO_at MO_end MO_token MO_number MO_name MO_bank MO_rb MO_codes MO_within MO_piled MO_unitsInRule MO_askThing MO_acts MO_undone MO_laid MO_heards MO_time))]) [0] rfl
  refine vp_callSi (va_runV (As := []) (rest := []) ⟨hx, hb, hml, hown, hts⟩ (c_X12_isGood l D cI cB cL cZ cG MO aMO MO_taped MO_size MO_faultKind MO_faultPlace MO_at MO_end MO_token MO_number MO_name MO_bank MO_rb MO_codes MO_within MO_piled MO_unitsInRule MO_askThing MO_acts MO_undone MO_laid MO_heards MO_time b_MO_taped b_MO_size b_MO_faultKind b_MO_at b_MO_end b_MO_token b_MO_bank b_MO_rb b_MO_codes b_MO_within b_MO_piled b_MO_unitsInRule b_MO_askThing b_MO_acts b_MO_undone b_MO_laid b_MO_heards b_MO_time) (cwV 0 hts gX12_passes_X12_isGood rfl rfl rfl (by decide +kernel) ⟨Nat.le_of_ble_eq_true rfl, Nat.le_of_ble_eq_true rfl⟩) ⟨xr_blind, va_recv hK hP (ci := 12) (q0 := 0) rfl rfl, fun U hU hW => xr_mk hU hW hPc hK⟩ rfl rfl hl.1 rfl (lv_room (Nat.le_of_ble_eq_true rfl)) dX12_passes_1 ⟨Nat.le_of_ble_eq_true rfl, Nat.le_of_ble_eq_true rfl⟩).run (fun r1 hr1 => ?_)
  clear hPc
  rcases hr1 with ⟨rfl, hr1_0_0⟩ | ⟨rfl, hr1_1_0⟩
  · refine lv_if_eq (tgt := 19) hx hb dX12_passes_4 (by decide) (fun _ => ?_) (fun c4 => absurd (by decide) c4)
    refine lv_iconst (v := 0) hx hb dX12_passes_19 (by decide) ?_
    refine lv_istore_n (lv' := [(3, .int 0), (0, .ref MO), (1, .long x0)]) hx hb dX12_passes_20 rfl hl (by decide) rfl (fun ls hl => ?_)
    refine lv_iload_n hx hb dX12_passes_21 rfl (lv_at hl 0 rfl) ?_
    refine lv_if_eq (tgt := 29) hx hb dX12_passes_22 (by decide) (fun _ => ?_) (fun c22 => absurd (by decide) c22)
    refine lv_iload_n hx hb dX12_passes_29 rfl (lv_at hl 0 rfl) ?_
    exact W.zret (v := 0) (ty := .boolean) hx hb hr (by decide) (fun t ht hW => ⟨⟨0, 0, rfl, ⟨rfl, (zB_w (show zB 0 0 0 from ⟨by decide, by decide⟩) (by decide) (by decide))⟩, ⟨MO_at, MO_end, MO_token, MO_number, MO_name, b_MO_at, b_MO_end, b_MO_token, (by have h9_0 := (show (0 : Int32).toInt = 0 from by decide); have h9_1 := (b_MO_end).1; have h9_2 := (b_MO_end).2; have h9_3 := (b_MO_token).1; have h9_4 := (b_MO_token).2; have h9_5 := (show (1 : Int32).toInt = 1 from by decide); have h9_6 := (show ((-1) : Int32).toInt = (-1) from by decide); omega), (by have h9_0 := (show (0 : Int32).toInt = 0 from by decide); have h9_1 := (hr1_0_0).1; have h9_2 := (hr1_0_0).2; have h9_3 := (show (1 : Int32).toInt = 1 from by decide); have h9_4 := (show ((-1) : Int32).toInt = (-1) from by decide); omega), by rw [ht]; exact hP, hD⟩⟩, hS.F ht⟩) hS.2.2 dX12_passes_30
  · refine lv_if_eq (tgt := 19) hx hb dX12_passes_4 (by decide) (fun c4 => absurd c4 (by decide)) (fun _ => ?_)
    refine lv_aload_n hx hb dX12_passes_7 rfl (lv_at hl 0 rfl) ?_
    refine lv_lload_n hx hb dX12_passes_8 rfl (lv_at hl 1 rfl) ?_
    have hPc := hP.sub (ws' := [(MO, .inr (12, oX12 aMO MO_taped MO_size MO_faultKind MO_faultPlace MO_at MO_end MO_token MO_number MO_name MO_bank MO_rb MO_codes MO_within MO_piled MO_unitsInRule MO_askThing MO_acts MO_undone MO_laid MO_heards MO_time))]) [0] rfl
    refine vp_callSi (va_runV (As := [.long x0]) (rest := []) ⟨hx, hb, hml, hown, hts⟩ (c_X12_isWord l D cI cB cL cZ cG MO x0 aMO MO_taped MO_size MO_faultKind MO_faultPlace MO_at MO_end MO_token MO_number MO_name MO_bank MO_rb MO_codes MO_within MO_piled MO_unitsInRule MO_askThing MO_acts MO_undone MO_laid MO_heards MO_time b_MO_taped b_MO_size (zB_w hr1_1_0 (by decide) (by decide)) b_MO_at b_MO_end b_MO_token b_MO_bank b_MO_rb b_MO_codes b_MO_within b_MO_piled b_MO_unitsInRule b_MO_askThing b_MO_acts b_MO_undone b_MO_laid b_MO_heards b_MO_time) (cwV 1 hts gX12_passes_X12_isWord rfl rfl rfl (by decide +kernel) ⟨Nat.le_of_ble_eq_true rfl, Nat.le_of_ble_eq_true rfl⟩) ⟨xr_blind, va_recv hK hP (ci := 12) (q0 := 0) rfl rfl, fun U hU hW => xr_mk hU hW hPc hK⟩ rfl rfl hl.1 rfl (lv_room (Nat.le_of_ble_eq_true rfl)) dX12_passes_9 ⟨Nat.le_of_ble_eq_true rfl, Nat.le_of_ble_eq_true rfl⟩).run (fun r9 hr9 => ?_)
    obtain ⟨hr9, p9_t, p9_n, p9_z⟩ := hr9
    clear hPc
    rcases hr9 with rfl | rfl
    · refine lv_if_eq (tgt := 19) hx hb dX12_passes_12 (by decide) (fun _ => ?_) (fun c12 => absurd (by decide) c12)
      refine lv_iconst (v := 0) hx hb dX12_passes_19 (by decide) ?_
      refine lv_istore_n (lv' := [(3, .int 0), (0, .ref MO), (1, .long x0)]) hx hb dX12_passes_20 rfl hl (by decide) rfl (fun ls hl => ?_)
      refine lv_iload_n hx hb dX12_passes_21 rfl (lv_at hl 0 rfl) ?_
      refine lv_if_eq (tgt := 29) hx hb dX12_passes_22 (by decide) (fun _ => ?_) (fun c22 => absurd (by decide) c22)
      refine lv_iload_n hx hb dX12_passes_29 rfl (lv_at hl 0 rfl) ?_
      exact W.zret (v := 0) (ty := .boolean) hx hb hr (by decide) (fun t ht hW => ⟨⟨0, 0, rfl, ⟨rfl, (zB_w (show zB 0 0 0 from ⟨by decide, by decide⟩) (by decide) (by decide))⟩, ⟨MO_at, MO_end, MO_token, MO_number, MO_name, b_MO_at, b_MO_end, b_MO_token, (by have h9_0 := p9_t; have h9_1 := (show (0 : Int32).toInt = 0 from by decide); have h9_2 := (b_MO_end).1; have h9_3 := (b_MO_end).2; have h9_4 := (b_MO_token).1; have h9_5 := (b_MO_token).2; have h9_6 := (show (1 : Int32).toInt = 1 from by decide); have h9_7 := (show ((-1) : Int32).toInt = (-1) from by decide); omega), (by have h9_0 := (show (0 : Int32).toInt = 0 from by decide); have h9_1 := (hr1_1_0).1; have h9_2 := (hr1_1_0).2; have h9_3 := (show (1 : Int32).toInt = 1 from by decide); have h9_4 := (show ((-1) : Int32).toInt = (-1) from by decide); omega), by rw [ht]; exact hP, hD⟩⟩, hS.F ht⟩) hS.2.2 dX12_passes_30
    · refine lv_if_eq (tgt := 19) hx hb dX12_passes_12 (by decide) (fun c12 => absurd c12 (by decide)) (fun _ => ?_)
      refine lv_iconst (v := 1) hx hb dX12_passes_15 (by decide) ?_
      refine lv_goto (tgt := 20) hx hb dX12_passes_16 (by decide) ?_
      refine lv_istore_n (lv' := [(3, .int 1), (0, .ref MO), (1, .long x0)]) hx hb dX12_passes_20 rfl hl (by decide) rfl (fun ls hl => ?_)
      refine lv_iload_n hx hb dX12_passes_21 rfl (lv_at hl 0 rfl) ?_
      refine lv_if_eq (tgt := 29) hx hb dX12_passes_22 (by decide) (fun c22 => absurd c22 (by decide)) (fun _ => ?_)
      refine lv_aload_n hx hb dX12_passes_25 rfl (lv_at hl 1 rfl) ?_
      have hPc := hP.sub (ws' := [(MO, .inr (12, oX12 aMO MO_taped MO_size MO_faultKind MO_faultPlace MO_at MO_end MO_token MO_number MO_name MO_bank MO_rb MO_codes MO_within MO_piled MO_unitsInRule MO_askThing MO_acts MO_undone MO_laid MO_heards MO_time)), ((aMO 1), .inl (cB, 1600, .inl MO_text))]) [0, 1] rfl
      have hDc := hD.sub (ws' := [(MO, .inr (12, oX12 aMO MO_taped MO_size MO_faultKind MO_faultPlace MO_at MO_end MO_token MO_number MO_name MO_bank MO_rb MO_codes MO_within MO_piled MO_unitsInRule MO_askThing MO_acts MO_undone MO_laid MO_heards MO_time)), ((aMO 1), .inl (cB, 1600, .inl MO_text))]) [0, 1] (by decide) rfl
      have hFc := va_free (wc := [(MO, .inr (12, oX12 aMO MO_taped MO_size MO_faultKind MO_faultPlace MO_at MO_end MO_token MO_number MO_name MO_bank MO_rb MO_codes MO_within MO_piled MO_unitsInRule MO_askThing MO_acts MO_undone MO_laid MO_heards MO_time)), ((aMO 1), .inl (cB, 1600, .inl MO_text))]) hD hS hA [0, 1] rfl
      refine va_callv (va_runV (As := []) (rest := []) ⟨hx, hb, hml, hown, hts⟩ (c_X12_goOn l D cI cB cL cZ cG MO aMO MO_taped MO_size MO_faultKind MO_faultPlace MO_at MO_end MO_token MO_number MO_name MO_bank MO_rb MO_codes MO_within MO_piled MO_unitsInRule MO_askThing MO_acts MO_undone MO_laid MO_heards MO_time MO_text H.size b_MO_taped b_MO_size (zB_w hr1_1_0 (by decide) (by decide)) b_MO_at b_MO_end b_MO_token b_MO_bank b_MO_rb b_MO_codes b_MO_within b_MO_piled b_MO_unitsInRule b_MO_askThing b_MO_acts b_MO_undone b_MO_laid b_MO_heards b_MO_time) (cwV 0 hts gX12_passes_X12_goOn rfl rfl rfl (by decide +kernel) ⟨Nat.le_of_ble_eq_true rfl, Nat.le_of_ble_eq_true rfl⟩) ⟨xp_blind, va_recv hK hP (ci := 12) (q0 := 0) rfl rfl, fun U hU hW => xp_mk hU hW hPc hK hDc xNw_nil⟩ rfl rfl hl.1 rfl (lv_room (Nat.le_of_ble_eq_true rfl)) dX12_passes_26 ⟨Nat.le_of_ble_eq_true rfl, Nat.le_of_ble_eq_true rfl⟩) hS (fun q _ h => hFc q h) hFc (fun u9 t9 H1 locs ht9 hvm9 hr26 hB9 hz9 hk9 hS => ?_)
      obtain ⟨o26_nMO_at, o26_nMO_end, o26_nMO_token, o26_nMO_number, o26_nMO_name, bo26_nMO_at, bo26_nMO_end, bo26_nMO_token, p26_m2, hP1, hD1⟩ := hB9
      rw [ht9] at hP1
      obtain ⟨hP, hD⟩ := va_join (wr := []) (w1 := [(MO, .inr (12, oX12 aMO MO_taped MO_size MO_faultKind MO_faultPlace o26_nMO_at o26_nMO_end o26_nMO_token o26_nMO_number o26_nMO_name MO_bank MO_rb MO_codes MO_within MO_piled MO_unitsInRule MO_askThing MO_acts MO_undone MO_laid MO_heards MO_time)), ((aMO 1), .inl (cB, 1600, .inl MO_text))]) hP hD [0, 1] [] rfl rfl (by decide) (by decide) hk9 hFc hP1 hD1
      clear hz9 hPc hDc hP1 hD1 hk9 hFc ht9 hvm9 u9 t9
      generalize H1 = H at hP hS ⊢
      replace hP : va_P D classes [(MO, .inr (12, oX12 aMO MO_taped MO_size MO_faultKind MO_faultPlace o26_nMO_at o26_nMO_end o26_nMO_token o26_nMO_number o26_nMO_name MO_bank MO_rb MO_codes MO_within MO_piled MO_unitsInRule MO_askThing MO_acts MO_undone MO_laid MO_heards MO_time)), ((aMO 1), .inl (cB, 1600, .inl MO_text))] H := hP
      replace hD : va_D A [(MO, .inr (12, oX12 aMO MO_taped MO_size MO_faultKind MO_faultPlace o26_nMO_at o26_nMO_end o26_nMO_token o26_nMO_number o26_nMO_name MO_bank MO_rb MO_codes MO_within MO_piled MO_unitsInRule MO_askThing MO_acts MO_undone MO_laid MO_heards MO_time)), ((aMO 1), .inl (cB, 1600, .inl MO_text))] := hD
      refine lv_iload_n hx hb dX12_passes_29 rfl (lv_at hl 0 rfl) ?_
      exact W.zret (v := 1) (ty := .boolean) hx hb hr (by decide) (fun t ht hW => ⟨⟨1, 1, rfl, ⟨rfl, (zB_w (show zB 1 1 1 from ⟨by decide, by decide⟩) (by decide) (by decide))⟩, ⟨o26_nMO_at, o26_nMO_end, o26_nMO_token, o26_nMO_number, o26_nMO_name, bo26_nMO_at, bo26_nMO_end, bo26_nMO_token, (by have h9_0 := p9_t; have h9_1 := p26_m2; have h9_2 := (show (1 : Int32).toInt = 1 from by decide); have h9_3 := (b_MO_end).1; have h9_4 := (b_MO_end).2; have h9_5 := (b_MO_token).1; have h9_6 := (b_MO_token).2; have h9_7 := (bo26_nMO_end).1; have h9_8 := (bo26_nMO_end).2; have h9_9 := (bo26_nMO_token).1; have h9_10 := (bo26_nMO_token).2; have h9_11 := (show (0 : Int32).toInt = 0 from by decide); have h9_12 := (show ((-1) : Int32).toInt = (-1) from by decide); omega), (by have h9_0 := (show (1 : Int32).toInt = 1 from by decide); have h9_1 := (hr1_1_0).1; have h9_2 := (hr1_1_0).2; have h9_3 := (show (0 : Int32).toInt = 0 from by decide); have h9_4 := (show ((-1) : Int32).toInt = (-1) from by decide); omega), by rw [ht]; exact hP, hD⟩⟩, hS.F ht⟩) hS.2.2 dX12_passes_30
set_option maxHeartbeats 4000000 in
set_option maxRecDepth 100000 in
theorem c_X12_perhaps (l : Launch) (D : va_G) (cI : ClassId) (cB : ClassId) (cL : ClassId) (cZ : ClassId) (cG : ClassId) (MO : Nat) (x0 : Int64) (x1 : Int32) (aMO : Nat → Nat) (MO_taped : Int32) (MO_size : Int32) (MO_faultKind : Int32) (MO_faultPlace : Int32) (MO_at : Int32) (MO_end : Int32) (MO_token : Int32) (MO_number : Int32) (MO_name : Int64) (MO_bank : Int32) (MO_rb : Int32) (MO_codes : Int32) (MO_within : Int32) (MO_piled : Int32) (MO_unitsInRule : Int32) (MO_askThing : Int32) (MO_acts : Int32) (MO_undone : Int32) (MO_laid : Int32) (MO_heards : Int32) (MO_time : Int32) (MO_text : Nat → Int32) (sz : Nat) (b_x1 : zB x1 0 50) (b_MO_taped : zB MO_taped 0 1600) (b_MO_size : zB MO_size 0 1600) (b_MO_faultKind : zB MO_faultKind 0 5) (b_MO_at : zB MO_at 0 1600) (b_MO_end : zB MO_end 0 1600) (b_MO_token : zB MO_token 0 5) (b_MO_bank : zB MO_bank 0 1) (b_MO_rb : zB MO_rb 0 1) (b_MO_codes : zB MO_codes 0 1120) (b_MO_within : zB MO_within 0 7) (b_MO_piled : zB MO_piled 0 89) (b_MO_unitsInRule : zB MO_unitsInRule 0 30) (b_MO_askThing : zB MO_askThing 0 5) (b_MO_acts : zB MO_acts 0 40) (b_MO_undone : zB MO_undone 0 40) (b_MO_laid : zB MO_laid 0 8) (b_MO_heards : zB MO_heards 0 30) (b_MO_time : zB MO_time 0 100000) : Met l yX12_perhaps wsX12_perhaps ({ frames := 3, cells := 0, slots := 0, locals := 67 }) (xp D [(cI, .int), (cB, .byte), (cL, .long), (cZ, .boolean), (cG, .array .int)] [(MO, .inr (12, oX12 aMO MO_taped MO_size MO_faultKind MO_faultPlace MO_at MO_end MO_token MO_number MO_name MO_bank MO_rb MO_codes MO_within MO_piled MO_unitsInRule MO_askThing MO_acts MO_undone MO_laid MO_heards MO_time)), ((aMO 1), .inl (cB, 1600, .inl MO_text))] sz [] [.ref MO, .long x0, .int x1]) (va_Qi (fun (r : Int32) (u : Int32) => r = u ∧ (zB r 0 999)) (fun (u : Int32) (t : State) => ∃ (nMO_faultKind : Int32), ∃ (nMO_faultPlace : Int32), ∃ (nMO_at : Int32), ∃ (nMO_end : Int32), ∃ (nMO_token : Int32), ∃ (nMO_number : Int32), ∃ (nMO_name : Int64), zB nMO_faultKind 0 5 ∧ zB nMO_at 0 1600 ∧ zB nMO_end 0 1600 ∧ zB nMO_token 0 5 ∧ (zM nMO_end nMO_token ≤ zM MO_end MO_token) ∧ (nMO_faultKind.toInt = 0 → MO_faultKind.toInt = 0) ∧ (u.toInt ≤ x1.toInt) ∧ xB D (va_A [(MO, .inr (12, oX12 aMO MO_taped MO_size MO_faultKind MO_faultPlace MO_at MO_end MO_token MO_number MO_name MO_bank MO_rb MO_codes MO_within MO_piled MO_unitsInRule MO_askThing MO_acts MO_undone MO_laid MO_heards MO_time)), ((aMO 1), .inl (cB, 1600, .inl MO_text))] sz) [(MO, .inr (12, oX12 aMO MO_taped MO_size nMO_faultKind nMO_faultPlace nMO_at nMO_end nMO_token nMO_number nMO_name MO_bank MO_rb MO_codes MO_within MO_piled MO_unitsInRule MO_askThing MO_acts MO_undone MO_laid MO_heards MO_time)), ((aMO 1), .inl (cB, 1600, .inl MO_text))] t) (va_A [(MO, .inr (12, oX12 aMO MO_taped MO_size MO_faultKind MO_faultPlace MO_at MO_end MO_token MO_number MO_name MO_bank MO_rb MO_codes MO_within MO_piled MO_unitsInRule MO_askThing MO_acts MO_undone MO_laid MO_heards MO_time)), ((aMO 1), .inl (cB, 1600, .inl MO_text))] sz)) 0 0 (va_A [(MO, .inr (12, oX12 aMO MO_taped MO_size MO_faultKind MO_faultPlace MO_at MO_end MO_token MO_number MO_name MO_bank MO_rb MO_codes MO_within MO_piled MO_unitsInRule MO_askThing MO_acts MO_undone MO_laid MO_heards MO_time)), ((aMO 1), .inl (cB, 1600, .inl MO_text))] sz) := by
  refine Met.ofW (cc := cX12_perhaps) (maxL := 4) (ret := (some .int)) (by decide) rfl ?_
  intro p e s m args below meth c s₁ B hml hv
  obtain ⟨rfl, hsz, hP, hK, hD0, hNw⟩ := hv
  have hx := B.exec
  have hb := B.bytes
  have hr := B.returns
  have hts := atoms_spec (ws := wsX12_perhaps) B.pre
  have hown : s.vm.findClass RX12 = some m.cls := findClass_of_methodNamed B.named
  have hlocks := B.notSynchronized
  clear B
  subst hsz
  have hD := hD0.self (sz := s.heap.size)
  clear hD0 hNw
  generalize hAe : va_A [(MO, .inr (12, oX12 aMO MO_taped MO_size MO_faultKind MO_faultPlace MO_at MO_end MO_token MO_number MO_name MO_bank MO_rb MO_codes MO_within MO_piled MO_unitsInRule MO_askThing MO_acts MO_undone MO_laid MO_heards MO_time)), ((aMO 1), .inl (cB, 1600, .inl MO_text))] s.heap.size = A at hD ⊢
  have hA : ∀ q : Nat, s.heap.size ≤ q → A q := fun q h => by rw [← hAe]; exact Or.inr h
  have hS : va_S A s.heap s.heap [] := va_S.rf
  clear hAe
  obtain ⟨H, hH⟩ : ∃ H : Heap, H = s.heap := ⟨_, rfl⟩
  obtain ⟨locs, hlocs⟩ : ∃ L : List Loc, L = [] := ⟨_, rfl⟩
  replace hP : va_P D classes [(MO, .inr (12, oX12 aMO MO_taped MO_size MO_faultKind MO_faultPlace MO_at MO_end MO_token MO_number MO_name MO_bank MO_rb MO_codes MO_within MO_piled MO_unitsInRule MO_askThing MO_acts MO_undone MO_laid MO_heards MO_time)), ((aMO 1), .inl (cB, 1600, .inl MO_text))] H := by rw [hH]; exact hP
  replace hS : va_S A s.heap H locs := by rw [hH, hlocs]; exact hS
  rw [← hH, ← hlocs]
  clear hlocs hH
  have hl := lv_entry ([.ref MO, .long x0, .int x1]) (n := 4) (Nat.le_of_ble_eq_true rfl)
  rw [lg_entry_eq]
  generalize (lg_sl ([.ref MO, .long x0, .int x1]) ++ List.replicate (4 - (lg_sl ([.ref MO, .long x0, .int x1])).length) Slot.unset).toArray = ls at hl ⊢
  replace hl : lv_has ls 4 [(0, .ref MO), (1, .long x0), (3, .int x1)] := hl
  refine lv_aload_n hx hb dX12_perhaps_0 rfl (lv_at hl 0 rfl) ?_
  refine lv_lload_n hx hb dX12_perhaps_1 rfl (lv_at hl 1 rfl) ?_
  have hPc := hP.sub (ws' := [(MO, .inr (12, oX12 aMO MO_taped MO_size MO_faultKind MO_faultPlace MO_at MO_end MO_token MO_number MO_name MO_bank MO_rb MO_codes MO_within MO_piled MO_unitsInRule MO_askThing MO_acts MO_undone MO_laid MO_heards MO_time)), ((aMO 1), .inl (cB, 1600, .inl MO_text))]) [0, 1] rfl
  have hDc := hD.sub (ws' := [(MO, .inr (12, oX12 aMO MO_taped MO_size MO_faultKind MO_faultPlace MO_at MO_end MO_token MO_number MO_name MO_bank MO_rb MO_codes MO_within MO_piled MO_unitsInRule MO_askThing MO_acts MO_undone MO_laid MO_heards MO_time)), ((aMO 1), .inl (cB, 1600, .inl MO_text))]) [0, 1] (by decide) rfl
  have hFc := va_free (wc := [(MO, .inr (12, oX12 aMO MO_taped MO_size MO_faultKind MO_faultPlace MO_at MO_end MO_token MO_number MO_name MO_bank MO_rb MO_codes MO_within MO_piled MO_unitsInRule MO_askThing MO_acts MO_undone MO_laid MO_heards MO_time)), ((aMO 1), .inl (cB, 1600, .inl MO_text))]) hD hS hA [0, 1] rfl
  refine va_calli (va_runV (As := [.long x0]) (rest := []) ⟨hx, hb, hml, hown, hts⟩ (c_X12_passes l D cI cB cL cZ cG MO x0 aMO MO_taped MO_size MO_faultKind MO_faultPlace MO_at MO_end MO_token MO_number MO_name MO_bank MO_rb MO_codes MO_within MO_piled MO_unitsInRule MO_askThing MO_acts MO_undone MO_laid MO_heards MO_time MO_text H.size b_MO_taped b_MO_size b_MO_faultKind b_MO_at b_MO_end b_MO_token b_MO_bank b_MO_rb b_MO_codes b_MO_within b_MO_piled b_MO_unitsInRule b_MO_askThing b_MO_acts b_MO_undone b_MO_laid b_MO_heards b_MO_time) (cwV 1 hts gX12_perhaps_X12_passes rfl rfl rfl (by decide +kernel) ⟨Nat.le_of_ble_eq_true rfl, Nat.le_of_ble_eq_true rfl⟩) ⟨xp_blind, va_recv hK hP (ci := 12) (q0 := 0) rfl rfl, fun U hU hW => xp_mk hU hW hPc hK hDc xNw_nil⟩ rfl rfl hl.1 rfl (lv_room (Nat.le_of_ble_eq_true rfl)) dX12_perhaps_2 ⟨Nat.le_of_ble_eq_true rfl, Nat.le_of_ble_eq_true rfl⟩) hS (fun q _ h => hFc q h) hFc (fun r2 u9 t9 H1 locs ht9 hvm9 hr2 hB9 hz9 hk9 hS => ?_)
  obtain ⟨rfl, hr2⟩ := hr2
  obtain ⟨o2_nMO_at, o2_nMO_end, o2_nMO_token, o2_nMO_number, o2_nMO_name, bo2_nMO_at, bo2_nMO_end, bo2_nMO_token, p2_m1, p2_f1, hP1, hD1⟩ := hB9
  rw [ht9] at hP1
  obtain ⟨hP, hD⟩ := va_join (wr := []) (w1 := [(MO, .inr (12, oX12 aMO MO_taped MO_size MO_faultKind MO_faultPlace o2_nMO_at o2_nMO_end o2_nMO_token o2_nMO_number o2_nMO_name MO_bank MO_rb MO_codes MO_within MO_piled MO_unitsInRule MO_askThing MO_acts MO_undone MO_laid MO_heards MO_time)), ((aMO 1), .inl (cB, 1600, .inl MO_text))]) hP hD [0, 1] [] rfl rfl (by decide) (by decide) hk9 hFc hP1 hD1
  clear hz9 hPc hDc hP1 hD1 hk9 hFc ht9 hvm9 t9
  generalize H1 = H at hP hS ⊢
  replace hP : va_P D classes [(MO, .inr (12, oX12 aMO MO_taped MO_size MO_faultKind MO_faultPlace o2_nMO_at o2_nMO_end o2_nMO_token o2_nMO_number o2_nMO_name MO_bank MO_rb MO_codes MO_within MO_piled MO_unitsInRule MO_askThing MO_acts MO_undone MO_laid MO_heards MO_time)), ((aMO 1), .inl (cB, 1600, .inl MO_text))] H := hP
  replace hD : va_D A [(MO, .inr (12, oX12 aMO MO_taped MO_size MO_faultKind MO_faultPlace o2_nMO_at o2_nMO_end o2_nMO_token o2_nMO_number o2_nMO_name MO_bank MO_rb MO_codes MO_within MO_piled MO_unitsInRule MO_askThing MO_acts MO_undone MO_laid MO_heards MO_time)), ((aMO 1), .inl (cB, 1600, .inl MO_text))] := hD
  refine lv_if_eq (tgt := 17) hx hb dX12_perhaps_5 (by decide) (fun c5 => ?_) (fun c5 => ?_)
  · have be5t_r2 : zB r2 0 0 := zB_eq c5 hr2 (show zB 0 0 0 from ⟨by decide, by decide⟩) (by decide) (by decide)
    refine lv_iconst (v := 0) hx hb dX12_perhaps_17 (by decide) ?_
    exact W.iret (v := 0) hx hb hr (fun t ht hW => ⟨⟨0, 0, rfl, ⟨rfl, (zB_w (show zB 0 0 0 from ⟨by decide, by decide⟩) (by decide) (by decide))⟩, ⟨MO_faultKind, MO_faultPlace, o2_nMO_at, o2_nMO_end, o2_nMO_token, o2_nMO_number, o2_nMO_name, b_MO_faultKind, bo2_nMO_at, bo2_nMO_end, bo2_nMO_token, (by have h9_0 := p2_m1; have h9_1 := (show (0 : Int32).toInt = 0 from by decide); have h9_2 := (b_MO_end).1; have h9_3 := (b_MO_end).2; have h9_4 := (b_MO_token).1; have h9_5 := (b_MO_token).2; have h9_6 := (bo2_nMO_end).1; have h9_7 := (bo2_nMO_end).2; have h9_8 := (bo2_nMO_token).1; have h9_9 := (bo2_nMO_token).2; have h9_10 := (show (1 : Int32).toInt = 1 from by decide); have h9_11 := (show ((-1) : Int32).toInt = (-1) from by decide); omega), (by have h9_0 := p2_f1; have h9_1 := (show (0 : Int32).toInt = 0 from by decide); have h9_2 := (b_MO_faultKind).1; have h9_3 := (b_MO_faultKind).2; have h9_4 := (show (1 : Int32).toInt = 1 from by decide); have h9_5 := (show ((-1) : Int32).toInt = (-1) from by decide); omega), (by have h9_0 := (show (0 : Int32).toInt = 0 from by decide); have h9_1 := (b_x1).1; have h9_2 := (b_x1).2; have h9_3 := (show (1 : Int32).toInt = 1 from by decide); have h9_4 := (show ((-1) : Int32).toInt = (-1) from by decide); omega), by rw [ht]; exact hP, hD⟩⟩, hS.F ht⟩) hS.2.2 dX12_perhaps_18
  · have bn5f_r2 : zB r2 1 1 := zB_neL c5 hr2 (show zB 0 0 0 from ⟨by decide, by decide⟩) (by decide)
    refine lv_aload_n hx hb dX12_perhaps_8 rfl (lv_at hl 0 rfl) ?_
    refine lv_iconst (v := 0) hx hb dX12_perhaps_9 (by decide) ?_
    refine lv_iload_n hx hb dX12_perhaps_10 rfl (lv_at hl 2 rfl) ?_
    have hPc := hP.sub (ws' := [(MO, .inr (12, oX12 aMO MO_taped MO_size MO_faultKind MO_faultPlace o2_nMO_at o2_nMO_end o2_nMO_token o2_nMO_number o2_nMO_name MO_bank MO_rb MO_codes MO_within MO_piled MO_unitsInRule MO_askThing MO_acts MO_undone MO_laid MO_heards MO_time)), ((aMO 1), .inl (cB, 1600, .inl MO_text))]) [0, 1] rfl
    have hDc := hD.sub (ws' := [(MO, .inr (12, oX12 aMO MO_taped MO_size MO_faultKind MO_faultPlace o2_nMO_at o2_nMO_end o2_nMO_token o2_nMO_number o2_nMO_name MO_bank MO_rb MO_codes MO_within MO_piled MO_unitsInRule MO_askThing MO_acts MO_undone MO_laid MO_heards MO_time)), ((aMO 1), .inl (cB, 1600, .inl MO_text))]) [0, 1] (by decide) rfl
    have hFc := va_free (wc := [(MO, .inr (12, oX12 aMO MO_taped MO_size MO_faultKind MO_faultPlace o2_nMO_at o2_nMO_end o2_nMO_token o2_nMO_number o2_nMO_name MO_bank MO_rb MO_codes MO_within MO_piled MO_unitsInRule MO_askThing MO_acts MO_undone MO_laid MO_heards MO_time)), ((aMO 1), .inl (cB, 1600, .inl MO_text))]) hD hS hA [0, 1] rfl
    refine va_calli (va_runV (As := [.int 0, .int x1]) (rest := []) ⟨hx, hb, hml, hown, hts⟩ (c_X12_numeral l D cI cB cL cZ cG MO 0 x1 aMO MO_taped MO_size MO_faultKind MO_faultPlace o2_nMO_at o2_nMO_end o2_nMO_token o2_nMO_number o2_nMO_name MO_bank MO_rb MO_codes MO_within MO_piled MO_unitsInRule MO_askThing MO_acts MO_undone MO_laid MO_heards MO_time MO_text H.size (show zB 0 0 0 from ⟨by decide, by decide⟩) (zB_w b_x1 (by decide) (by decide)) b_MO_taped b_MO_size b_MO_faultKind bo2_nMO_at bo2_nMO_end bo2_nMO_token b_MO_bank b_MO_rb b_MO_codes b_MO_within b_MO_piled b_MO_unitsInRule b_MO_askThing b_MO_acts b_MO_undone b_MO_laid b_MO_heards b_MO_time) (cwV 2 hts gX12_perhaps_X12_numeral rfl rfl rfl (by decide +kernel) ⟨Nat.le_of_ble_eq_true rfl, Nat.le_of_ble_eq_true rfl⟩) ⟨xp_blind, va_recv hK hP (ci := 12) (q0 := 0) rfl rfl, fun U hU hW => xp_mk hU hW hPc hK hDc xNw_nil⟩ rfl rfl hl.1 rfl (lv_room (Nat.le_of_ble_eq_true rfl)) dX12_perhaps_11 ⟨Nat.le_of_ble_eq_true rfl, Nat.le_of_ble_eq_true rfl⟩) hS (fun q _ h => hFc q h) hFc (fun r11 u9 t9 H1 locs ht9 hvm9 hr11 hB9 hz9 hk9 hS => ?_)
    obtain ⟨rfl, hr11⟩ := hr11
    obtain ⟨o11_nMO_faultKind, o11_nMO_faultPlace, o11_nMO_at, o11_nMO_end, o11_nMO_token, o11_nMO_number, o11_nMO_name, bo11_nMO_faultKind, bo11_nMO_at, bo11_nMO_end, bo11_nMO_token, p11_m1, p11_f1, p11_le, hP1, hD1⟩ := hB9
    rw [ht9] at hP1
    obtain ⟨hP, hD⟩ := va_join (wr := []) (w1 := [(MO, .inr (12, oX12 aMO MO_taped MO_size o11_nMO_faultKind o11_nMO_faultPlace o11_nMO_at o11_nMO_end o11_nMO_token o11_nMO_number o11_nMO_name MO_bank MO_rb MO_codes MO_within MO_piled MO_unitsInRule MO_askThing MO_acts MO_undone MO_laid MO_heards MO_time)), ((aMO 1), .inl (cB, 1600, .inl MO_text))]) hP hD [0, 1] [] rfl rfl (by decide) (by decide) hk9 hFc hP1 hD1
    clear hz9 hPc hDc hP1 hD1 hk9 hFc ht9 hvm9 t9
    generalize H1 = H at hP hS ⊢
    replace hP : va_P D classes [(MO, .inr (12, oX12 aMO MO_taped MO_size o11_nMO_faultKind o11_nMO_faultPlace o11_nMO_at o11_nMO_end o11_nMO_token o11_nMO_number o11_nMO_name MO_bank MO_rb MO_codes MO_within MO_piled MO_unitsInRule MO_askThing MO_acts MO_undone MO_laid MO_heards MO_time)), ((aMO 1), .inl (cB, 1600, .inl MO_text))] H := hP
    replace hD : va_D A [(MO, .inr (12, oX12 aMO MO_taped MO_size o11_nMO_faultKind o11_nMO_faultPlace o11_nMO_at o11_nMO_end o11_nMO_token o11_nMO_number o11_nMO_name MO_bank MO_rb MO_codes MO_within MO_piled MO_unitsInRule MO_askThing MO_acts MO_undone MO_laid MO_heards MO_time)), ((aMO 1), .inl (cB, 1600, .inl MO_text))] := hD
    refine lv_goto (tgt := 18) hx hb dX12_perhaps_14 (by decide) ?_
    exact W.iret (v := r11) hx hb hr (fun t ht hW => ⟨⟨r11, r11, rfl, ⟨rfl, hr11⟩, ⟨o11_nMO_faultKind, o11_nMO_faultPlace, o11_nMO_at, o11_nMO_end, o11_nMO_token, o11_nMO_number, o11_nMO_name, bo11_nMO_faultKind, bo11_nMO_at, bo11_nMO_end, bo11_nMO_token, (by have h9_0 := p2_m1; have h9_1 := p11_m1; have h9_2 := (b_MO_end).1; have h9_3 := (b_MO_end).2; have h9_4 := (b_MO_token).1; have h9_5 := (b_MO_token).2; have h9_6 := (bo11_nMO_end).1; have h9_7 := (bo11_nMO_end).2; have h9_8 := (bo11_nMO_token).1; have h9_9 := (bo11_nMO_token).2; have h9_10 := (bo2_nMO_end).1; have h9_11 := (bo2_nMO_end).2; have h9_12 := (bo2_nMO_token).1; have h9_13 := (bo2_nMO_token).2; have h9_14 := (show (0 : Int32).toInt = 0 from by decide); have h9_15 := (show (1 : Int32).toInt = 1 from by decide); have h9_16 := (show ((-1) : Int32).toInt = (-1) from by decide); omega), (by have h9_0 := p2_f1; have h9_1 := p11_f1; have h9_2 := (b_MO_faultKind).1; have h9_3 := (b_MO_faultKind).2; have h9_4 := (bo11_nMO_faultKind).1; have h9_5 := (bo11_nMO_faultKind).2; have h9_6 := (show (0 : Int32).toInt = 0 from by decide); have h9_7 := (show (1 : Int32).toInt = 1 from by decide); have h9_8 := (show ((-1) : Int32).toInt = (-1) from by decide); omega), (by have h9_0 := p11_le; have h9_1 := (hr11).1; have h9_2 := (hr11).2; have h9_3 := (b_x1).1; have h9_4 := (b_x1).2; have h9_5 := (show (0 : Int32).toInt = 0 from by decide); have h9_6 := (show (1 : Int32).toInt = 1 from by decide); have h9_7 := (show ((-1) : Int32).toInt = (-1) from by decide); omega), by rw [ht]; exact hP, hD⟩⟩, hS.F ht⟩) hS.2.2 dX12_perhaps_18
