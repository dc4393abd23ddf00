set_option maxHeartbeats 4000000 in
set_option maxRecDepth 100000 in
theorem m_clearBank0 (l : Launch) (D : va_G) (cI : ClassId) (cB : ClassId) (cL : ClassId) (cZ : ClassId) (a0 : Nat) (ad : Nat → Nat) (v3 : Int32) (v6 : Int32) (v7 : Int32) (v8 : Int32) (v9 : Int32) (v37 : Int32) (v38 : Int32) (v39 : Int32) (v40 : Int32) (v41 : Int32) (vN : Int64) (fR : Nat → Int32) (fD : Nat → Int32) (fT : Nat → Int32) (fU : Nat → Int32) (fW : Nat → Int32) (fS : Nat → Int32) (fX : Nat → Int32) (sz : Nat) (hf_fR_0 : fR 0 = 0) (hf_fR_1 : fR 1 = 0) (hf_fD_0 : fD 0 = 0) (hf_fD_1 : fD 1 = 0) (hf_fT_0 : fT 0 = 0) (hf_fT_1 : fT 1 = 0) (hf_fU_0 : fU 0 = 0) (hf_fU_1 : fU 1 = 0) (hf_fW_0 : fW 0 = 0) (hf_fW_1 : fW 1 = 0) (hf_fS_0 : fS 0 = 0) (hf_fS_1 : fS 1 = 0) (hf_fX_0 : fX 0 = 0) (hf_fX_1 : fX 1 = 0) : Met l yX12_clearBank wsX12_clearBank ({ frames := 0, cells := 0, slots := 0, locals := 0 }) (xp D [(cI, .int), (cB, .byte), (cL, .long), (cZ, .boolean)] [(a0, .inr (12, MF ad 0 v3 0 (-1) v6 v7 v8 v9 vN 0 0 v37 v38 v39 v40 v41 0 0 0 0 0)), ((ad 11), .inl (cI, 2, .inl fR)), ((ad 12), .inl (cI, 2, .inl fD)), ((ad 13), .inl (cI, 2, .inl fT)), ((ad 14), .inl (cI, 2, .inl fU)), ((ad 15), .inl (cI, 2, .inl fW)), ((ad 26), .inl (cZ, 2, .inl fS)), ((ad 27), .inl (cZ, 2, .inl fX))] sz [] [.ref a0]) (va_Qv (fun _ : Unit => True) (fun (_ : Unit) (t : State) => ∃ (gR : Nat → Int32), ∃ (gD : Nat → Int32), ∃ (gT : Nat → Int32), ∃ (gU : Nat → Int32), ∃ (gW : Nat → Int32), ∃ (gS : Nat → Int32), ∃ (gX : Nat → Int32), gR 0 = 0 ∧ gR 1 = 0 ∧ gD 0 = 0 ∧ gD 1 = 0 ∧ gT 0 = 0 ∧ gT 1 = 0 ∧ gU 0 = 0 ∧ gU 1 = 0 ∧ gW 0 = 0 ∧ gW 1 = 0 ∧ gS 0 = 0 ∧ gS 1 = 0 ∧ gX 0 = 0 ∧ gX 1 = 0 ∧ xB D (va_A [(a0, .inr (12, MF ad 0 v3 0 (-1) v6 v7 v8 v9 vN 0 0 v37 v38 v39 v40 v41 0 0 0 0 0)), ((ad 11), .inl (cI, 2, .inl fR)), ((ad 12), .inl (cI, 2, .inl fD)), ((ad 13), .inl (cI, 2, .inl fT)), ((ad 14), .inl (cI, 2, .inl fU)), ((ad 15), .inl (cI, 2, .inl fW)), ((ad 26), .inl (cZ, 2, .inl fS)), ((ad 27), .inl (cZ, 2, .inl fX))] sz) [(a0, .inr (12, MF ad 0 v3 0 (-1) v6 v7 v8 v9 vN 0 0 0 v38 v39 v40 v41 0 0 0 0 0)), ((ad 11), .inl (cI, 2, .inl gR)), ((ad 12), .inl (cI, 2, .inl gD)), ((ad 13), .inl (cI, 2, .inl gT)), ((ad 14), .inl (cI, 2, .inl gU)), ((ad 15), .inl (cI, 2, .inl gW)), ((ad 26), .inl (cZ, 2, .inl gS)), ((ad 27), .inl (cZ, 2, .inl gX))] t) (va_A [(a0, .inr (12, MF ad 0 v3 0 (-1) v6 v7 v8 v9 vN 0 0 v37 v38 v39 v40 v41 0 0 0 0 0)), ((ad 11), .inl (cI, 2, .inl fR)), ((ad 12), .inl (cI, 2, .inl fD)), ((ad 13), .inl (cI, 2, .inl fT)), ((ad 14), .inl (cI, 2, .inl fU)), ((ad 15), .inl (cI, 2, .inl fW)), ((ad 26), .inl (cZ, 2, .inl fS)), ((ad 27), .inl (cZ, 2, .inl fX))] sz)) 0 0 (va_A [(a0, .inr (12, MF ad 0 v3 0 (-1) v6 v7 v8 v9 vN 0 0 v37 v38 v39 v40 v41 0 0 0 0 0)), ((ad 11), .inl (cI, 2, .inl fR)), ((ad 12), .inl (cI, 2, .inl fD)), ((ad 13), .inl (cI, 2, .inl fT)), ((ad 14), .inl (cI, 2, .inl fU)), ((ad 15), .inl (cI, 2, .inl fW)), ((ad 26), .inl (cZ, 2, .inl fS)), ((ad 27), .inl (cZ, 2, .inl fX))] sz) := by
  refine Met.ofW (cc := cX12_clearBank) (maxL := 1) (ret := none) (by decide) rfl ?_
  intro p e s m args below meth c s₁ B hml hv
  obtain ⟨rfl, hsz, hP, hK, hD0, hNw⟩ := hv
  have hx := B.exec
  have hb := B.bytes
  have hr := B.returns
  have hts := atoms_spec (ws := wsX12_clearBank) B.pre
  have hown : s.vm.findClass RX12 = some m.cls := findClass_of_methodNamed B.named
  have hlocks := B.notSynchronized
  subst hsz
  have hD := hD0.self (sz := s.heap.size)
  clear hD0
  generalize hAe : va_A [(a0, .inr (12, MF ad 0 v3 0 (-1) v6 v7 v8 v9 vN 0 0 v37 v38 v39 v40 v41 0 0 0 0 0)), ((ad 11), .inl (cI, 2, .inl fR)), ((ad 12), .inl (cI, 2, .inl fD)), ((ad 13), .inl (cI, 2, .inl fT)), ((ad 14), .inl (cI, 2, .inl fU)), ((ad 15), .inl (cI, 2, .inl fW)), ((ad 26), .inl (cZ, 2, .inl fS)), ((ad 27), .inl (cZ, 2, .inl fX))] s.heap.size = A at hD ⊢
  have hA : ∀ q : Nat, s.heap.size ≤ q → A q := fun q h => by rw [← hAe]; exact Or.inr h
  have hS : va_S A s.heap s.heap [] := va_S.rf
  clear hAe
  obtain ⟨H, hH⟩ : ∃ H : Heap, H = s.heap := ⟨_, rfl⟩
  obtain ⟨locs, hlocs⟩ : ∃ L : List Loc, L = [] := ⟨_, rfl⟩
  replace hP : va_P D classes [(a0, .inr (12, MF ad 0 v3 0 (-1) v6 v7 v8 v9 vN 0 0 v37 v38 v39 v40 v41 0 0 0 0 0)), ((ad 11), .inl (cI, 2, .inl fR)), ((ad 12), .inl (cI, 2, .inl fD)), ((ad 13), .inl (cI, 2, .inl fT)), ((ad 14), .inl (cI, 2, .inl fU)), ((ad 15), .inl (cI, 2, .inl fW)), ((ad 26), .inl (cZ, 2, .inl fS)), ((ad 27), .inl (cZ, 2, .inl fX))] H := by rw [hH]; exact hP
  replace hS : va_S A s.heap H locs := by rw [hH, hlocs]; exact hS
  rw [← hH, ← hlocs]
  clear hlocs hH
  have hl := lv_entry ([.ref a0]) (n := 1) (Nat.le_of_ble_eq_true rfl)
  rw [lg_entry_eq]
  generalize (lg_sl ([.ref a0]) ++ List.replicate (1 - (lg_sl ([.ref a0])).length) Slot.unset).toArray = ls at hl ⊢
  replace hl : lv_has ls 1 [(0, .ref a0)] := hl
  refine lv_aload_n hx hb dX12_clearBank_0 rfl (lv_at hl 0 rfl) ?_
  refine va_get (D := D) (ci := 12) (v := .ref (ad 11)) (C := RX12) (T := TX12) (N := 71) hx hb hts iw_X12_clearBank_X12 hown hK hP 0 rfl rfl 11 (by decide) (hts (.fieldLink RX12 20 "SoldHouseModel" "rooms" "[I") (List.mem_of_getElem? (i := 1) rfl)) (fun _ h9 => h9) rfl dX12_clearBank_1 ?_
  refine lv_aload_n hx hb dX12_clearBank_4 rfl (lv_at hl 0 rfl) ?_
  refine va_get (D := D) (ci := 12) (v := .int 0) (C := RX12) (T := TX12) (N := 71) hx hb hts iw_X12_clearBank_X12 hown hK hP 0 rfl rfl 36 (by decide) (hts (.fieldLink RX12 271 "SoldHouseModel" "rb" "I") (List.mem_of_getElem? (i := 2) rfl)) (fun _ h9 => h9) rfl dX12_clearBank_5 ?_
  refine lv_iconst (v := 0) hx hb dX12_clearBank_8 (by decide) ?_
  refine va_iast hx hb hK hP hD hS 1 0 rfl rfl (show vp_in 0 2 from (by decide : ¬ ((0 : Int32) < 0 ∨ 2 ≤ Int32.toNatClampNeg 0))) dX12_clearBank_9 (fun H locs hP hD hS => ?_)
  replace hP : va_P D classes [(a0, .inr (12, MF ad 0 v3 0 (-1) v6 v7 v8 v9 vN 0 0 v37 v38 v39 v40 v41 0 0 0 0 0)), ((ad 11), .inl (cI, 2, .inl (upd fR (Int32.toNatClampNeg 0) 0))), ((ad 12), .inl (cI, 2, .inl fD)), ((ad 13), .inl (cI, 2, .inl fT)), ((ad 14), .inl (cI, 2, .inl fU)), ((ad 15), .inl (cI, 2, .inl fW)), ((ad 26), .inl (cZ, 2, .inl fS)), ((ad 27), .inl (cZ, 2, .inl fX))] H := hP
  replace hD : va_D A [(a0, .inr (12, MF ad 0 v3 0 (-1) v6 v7 v8 v9 vN 0 0 v37 v38 v39 v40 v41 0 0 0 0 0)), ((ad 11), .inl (cI, 2, .inl (upd fR (Int32.toNatClampNeg 0) 0))), ((ad 12), .inl (cI, 2, .inl fD)), ((ad 13), .inl (cI, 2, .inl fT)), ((ad 14), .inl (cI, 2, .inl fU)), ((ad 15), .inl (cI, 2, .inl fW)), ((ad 26), .inl (cZ, 2, .inl fS)), ((ad 27), .inl (cZ, 2, .inl fX))] := hD
  generalize eg_1 : upd fR (Int32.toNatClampNeg 0) 0 = g_1 at hP hD
  have g_1_1 : g_1 1 = 0 := by rw [← eg_1]; exact (pk_un (by decide)).trans hf_fR_1
  have g_1_0 : g_1 0 = 0 := by rw [← eg_1]; exact pk_us
  clear eg_1
  refine lv_aload_n hx hb dX12_clearBank_10 rfl (lv_at hl 0 rfl) ?_
  refine va_get (D := D) (ci := 12) (v := .ref (ad 12)) (C := RX12) (T := TX12) (N := 71) hx hb hts iw_X12_clearBank_X12 hown hK hP 0 rfl rfl 12 (by decide) (hts (.fieldLink RX12 24 "SoldHouseModel" "doors" "[I") (List.mem_of_getElem? (i := 3) rfl)) (fun _ h9 => h9) rfl dX12_clearBank_11 ?_
  refine lv_aload_n hx hb dX12_clearBank_14 rfl (lv_at hl 0 rfl) ?_
  refine va_get (D := D) (ci := 12) (v := .int 0) (C := RX12) (T := TX12) (N := 71) hx hb hts iw_X12_clearBank_X12 hown hK hP 0 rfl rfl 36 (by decide) (hts (.fieldLink RX12 271 "SoldHouseModel" "rb" "I") (List.mem_of_getElem? (i := 2) rfl)) (fun _ h9 => h9) rfl dX12_clearBank_15 ?_
  refine lv_iconst (v := 0) hx hb dX12_clearBank_18 (by decide) ?_
  refine va_iast hx hb hK hP hD hS 2 0 rfl rfl (show vp_in 0 2 from (by decide : ¬ ((0 : Int32) < 0 ∨ 2 ≤ Int32.toNatClampNeg 0))) dX12_clearBank_19 (fun H locs hP hD hS => ?_)
  replace hP : va_P D classes [(a0, .inr (12, MF ad 0 v3 0 (-1) v6 v7 v8 v9 vN 0 0 v37 v38 v39 v40 v41 0 0 0 0 0)), ((ad 11), .inl (cI, 2, .inl g_1)), ((ad 12), .inl (cI, 2, .inl (upd fD (Int32.toNatClampNeg 0) 0))), ((ad 13), .inl (cI, 2, .inl fT)), ((ad 14), .inl (cI, 2, .inl fU)), ((ad 15), .inl (cI, 2, .inl fW)), ((ad 26), .inl (cZ, 2, .inl fS)), ((ad 27), .inl (cZ, 2, .inl fX))] H := hP
  replace hD : va_D A [(a0, .inr (12, MF ad 0 v3 0 (-1) v6 v7 v8 v9 vN 0 0 v37 v38 v39 v40 v41 0 0 0 0 0)), ((ad 11), .inl (cI, 2, .inl g_1)), ((ad 12), .inl (cI, 2, .inl (upd fD (Int32.toNatClampNeg 0) 0))), ((ad 13), .inl (cI, 2, .inl fT)), ((ad 14), .inl (cI, 2, .inl fU)), ((ad 15), .inl (cI, 2, .inl fW)), ((ad 26), .inl (cZ, 2, .inl fS)), ((ad 27), .inl (cZ, 2, .inl fX))] := hD
  generalize eg_2 : upd fD (Int32.toNatClampNeg 0) 0 = g_2 at hP hD
  have g_2_1 : g_2 1 = 0 := by rw [← eg_2]; exact (pk_un (by decide)).trans hf_fD_1
  have g_2_0 : g_2 0 = 0 := by rw [← eg_2]; exact pk_us
  clear eg_2
  refine lv_aload_n hx hb dX12_clearBank_20 rfl (lv_at hl 0 rfl) ?_
  refine va_get (D := D) (ci := 12) (v := .ref (ad 13)) (C := RX12) (T := TX12) (N := 71) hx hb hts iw_X12_clearBank_X12 hown hK hP 0 rfl rfl 13 (by decide) (hts (.fieldLink RX12 27 "SoldHouseModel" "things" "[I") (List.mem_of_getElem? (i := 4) rfl)) (fun _ h9 => h9) rfl dX12_clearBank_21 ?_
  refine lv_aload_n hx hb dX12_clearBank_24 rfl (lv_at hl 0 rfl) ?_
  refine va_get (D := D) (ci := 12) (v := .int 0) (C := RX12) (T := TX12) (N := 71) hx hb hts iw_X12_clearBank_X12 hown hK hP 0 rfl rfl 36 (by decide) (hts (.fieldLink RX12 271 "SoldHouseModel" "rb" "I") (List.mem_of_getElem? (i := 2) rfl)) (fun _ h9 => h9) rfl dX12_clearBank_25 ?_
  refine lv_iconst (v := 0) hx hb dX12_clearBank_28 (by decide) ?_
  refine va_iast hx hb hK hP hD hS 3 0 rfl rfl (show vp_in 0 2 from (by decide : ¬ ((0 : Int32) < 0 ∨ 2 ≤ Int32.toNatClampNeg 0))) dX12_clearBank_29 (fun H locs hP hD hS => ?_)
  replace hP : va_P D classes [(a0, .inr (12, MF ad 0 v3 0 (-1) v6 v7 v8 v9 vN 0 0 v37 v38 v39 v40 v41 0 0 0 0 0)), ((ad 11), .inl (cI, 2, .inl g_1)), ((ad 12), .inl (cI, 2, .inl g_2)), ((ad 13), .inl (cI, 2, .inl (upd fT (Int32.toNatClampNeg 0) 0))), ((ad 14), .inl (cI, 2, .inl fU)), ((ad 15), .inl (cI, 2, .inl fW)), ((ad 26), .inl (cZ, 2, .inl fS)), ((ad 27), .inl (cZ, 2, .inl fX))] H := hP
  replace hD : va_D A [(a0, .inr (12, MF ad 0 v3 0 (-1) v6 v7 v8 v9 vN 0 0 v37 v38 v39 v40 v41 0 0 0 0 0)), ((ad 11), .inl (cI, 2, .inl g_1)), ((ad 12), .inl (cI, 2, .inl g_2)), ((ad 13), .inl (cI, 2, .inl (upd fT (Int32.toNatClampNeg 0) 0))), ((ad 14), .inl (cI, 2, .inl fU)), ((ad 15), .inl (cI, 2, .inl fW)), ((ad 26), .inl (cZ, 2, .inl fS)), ((ad 27), .inl (cZ, 2, .inl fX))] := hD
  generalize eg_3 : upd fT (Int32.toNatClampNeg 0) 0 = g_3 at hP hD
  have g_3_1 : g_3 1 = 0 := by rw [← eg_3]; exact (pk_un (by decide)).trans hf_fT_1
  have g_3_0 : g_3 0 = 0 := by rw [← eg_3]; exact pk_us
  clear eg_3
  refine lv_aload_n hx hb dX12_clearBank_30 rfl (lv_at hl 0 rfl) ?_
  refine va_get (D := D) (ci := 12) (v := .ref (ad 14)) (C := RX12) (T := TX12) (N := 71) hx hb hts iw_X12_clearBank_X12 hown hK hP 0 rfl rfl 14 (by decide) (hts (.fieldLink RX12 30 "SoldHouseModel" "units" "[I") (List.mem_of_getElem? (i := 5) rfl)) (fun _ h9 => h9) rfl dX12_clearBank_31 ?_
  refine lv_aload_n hx hb dX12_clearBank_34 rfl (lv_at hl 0 rfl) ?_
  refine va_get (D := D) (ci := 12) (v := .int 0) (C := RX12) (T := TX12) (N := 71) hx hb hts iw_X12_clearBank_X12 hown hK hP 0 rfl rfl 36 (by decide) (hts (.fieldLink RX12 271 "SoldHouseModel" "rb" "I") (List.mem_of_getElem? (i := 2) rfl)) (fun _ h9 => h9) rfl dX12_clearBank_35 ?_
  refine lv_iconst (v := 0) hx hb dX12_clearBank_38 (by decide) ?_
  refine va_iast hx hb hK hP hD hS 4 0 rfl rfl (show vp_in 0 2 from (by decide : ¬ ((0 : Int32) < 0 ∨ 2 ≤ Int32.toNatClampNeg 0))) dX12_clearBank_39 (fun H locs hP hD hS => ?_)
  replace hP : va_P D classes [(a0, .inr (12, MF ad 0 v3 0 (-1) v6 v7 v8 v9 vN 0 0 v37 v38 v39 v40 v41 0 0 0 0 0)), ((ad 11), .inl (cI, 2, .inl g_1)), ((ad 12), .inl (cI, 2, .inl g_2)), ((ad 13), .inl (cI, 2, .inl g_3)), ((ad 14), .inl (cI, 2, .inl (upd fU (Int32.toNatClampNeg 0) 0))), ((ad 15), .inl (cI, 2, .inl fW)), ((ad 26), .inl (cZ, 2, .inl fS)), ((ad 27), .inl (cZ, 2, .inl fX))] H := hP
  replace hD : va_D A [(a0, .inr (12, MF ad 0 v3 0 (-1) v6 v7 v8 v9 vN 0 0 v37 v38 v39 v40 v41 0 0 0 0 0)), ((ad 11), .inl (cI, 2, .inl g_1)), ((ad 12), .inl (cI, 2, .inl g_2)), ((ad 13), .inl (cI, 2, .inl g_3)), ((ad 14), .inl (cI, 2, .inl (upd fU (Int32.toNatClampNeg 0) 0))), ((ad 15), .inl (cI, 2, .inl fW)), ((ad 26), .inl (cZ, 2, .inl fS)), ((ad 27), .inl (cZ, 2, .inl fX))] := hD
  generalize eg_4 : upd fU (Int32.toNatClampNeg 0) 0 = g_4 at hP hD
  have g_4_1 : g_4 1 = 0 := by rw [← eg_4]; exact (pk_un (by decide)).trans hf_fU_1
  have g_4_0 : g_4 0 = 0 := by rw [← eg_4]; exact pk_us
  clear eg_4
  refine lv_aload_n hx hb dX12_clearBank_40 rfl (lv_at hl 0 rfl) ?_
  refine va_get (D := D) (ci := 12) (v := .ref (ad 15)) (C := RX12) (T := TX12) (N := 71) hx hb hts iw_X12_clearBank_X12 hown hK hP 0 rfl rfl 15 (by decide) (hts (.fieldLink RX12 33 "SoldHouseModel" "draw" "[I") (List.mem_of_getElem? (i := 6) rfl)) (fun _ h9 => h9) rfl dX12_clearBank_41 ?_
  refine lv_aload_n hx hb dX12_clearBank_44 rfl (lv_at hl 0 rfl) ?_
  refine va_get (D := D) (ci := 12) (v := .int 0) (C := RX12) (T := TX12) (N := 71) hx hb hts iw_X12_clearBank_X12 hown hK hP 0 rfl rfl 36 (by decide) (hts (.fieldLink RX12 271 "SoldHouseModel" "rb" "I") (List.mem_of_getElem? (i := 2) rfl)) (fun _ h9 => h9) rfl dX12_clearBank_45 ?_
  refine lv_iconst (v := 0) hx hb dX12_clearBank_48 (by decide) ?_
  refine va_iast hx hb hK hP hD hS 5 0 rfl rfl (show vp_in 0 2 from (by decide : ¬ ((0 : Int32) < 0 ∨ 2 ≤ Int32.toNatClampNeg 0))) dX12_clearBank_49 (fun H locs hP hD hS => ?_)
  replace hP : va_P D classes [(a0, .inr (12, MF ad 0 v3 0 (-1) v6 v7 v8 v9 vN 0 0 v37 v38 v39 v40 v41 0 0 0 0 0)), ((ad 11), .inl (cI, 2, .inl g_1)), ((ad 12), .inl (cI, 2, .inl g_2)), ((ad 13), .inl (cI, 2, .inl g_3)), ((ad 14), .inl (cI, 2, .inl g_4)), ((ad 15), .inl (cI, 2, .inl (upd fW (Int32.toNatClampNeg 0) 0))), ((ad 26), .inl (cZ, 2, .inl fS)), ((ad 27), .inl (cZ, 2, .inl fX))] H := hP
  replace hD : va_D A [(a0, .inr (12, MF ad 0 v3 0 (-1) v6 v7 v8 v9 vN 0 0 v37 v38 v39 v40 v41 0 0 0 0 0)), ((ad 11), .inl (cI, 2, .inl g_1)), ((ad 12), .inl (cI, 2, .inl g_2)), ((ad 13), .inl (cI, 2, .inl g_3)), ((ad 14), .inl (cI, 2, .inl g_4)), ((ad 15), .inl (cI, 2, .inl (upd fW (Int32.toNatClampNeg 0) 0))), ((ad 26), .inl (cZ, 2, .inl fS)), ((ad 27), .inl (cZ, 2, .inl fX))] := hD
  generalize eg_5 : upd fW (Int32.toNatClampNeg 0) 0 = g_5 at hP hD
  have g_5_1 : g_5 1 = 0 := by rw [← eg_5]; exact (pk_un (by decide)).trans hf_fW_1
  have g_5_0 : g_5 0 = 0 := by rw [← eg_5]; exact pk_us
  clear eg_5
  refine lv_aload_n hx hb dX12_clearBank_50 rfl (lv_at hl 0 rfl) ?_
  refine va_get (D := D) (ci := 12) (v := .ref (ad 26)) (C := RX12) (T := TX12) (N := 71) hx hb hts iw_X12_clearBank_X12 hown hK hP 0 rfl rfl 26 (by decide) (hts (.fieldLink RX12 66 "SoldHouseModel" "hasSure" "[Z") (List.mem_of_getElem? (i := 7) rfl)) (fun _ h9 => h9) rfl dX12_clearBank_51 ?_
  refine lv_aload_n hx hb dX12_clearBank_54 rfl (lv_at hl 0 rfl) ?_
  refine va_get (D := D) (ci := 12) (v := .int 0) (C := RX12) (T := TX12) (N := 71) hx hb hts iw_X12_clearBank_X12 hown hK hP 0 rfl rfl 36 (by decide) (hts (.fieldLink RX12 271 "SoldHouseModel" "rb" "I") (List.mem_of_getElem? (i := 2) rfl)) (fun _ h9 => h9) rfl dX12_clearBank_55 ?_
  refine lv_iconst (v := 0) hx hb dX12_clearBank_58 (by decide) ?_
  refine va_zast hx hb hK hP hD hS 6 3 rfl rfl (show vp_in 0 2 from (by decide : ¬ ((0 : Int32) < 0 ∨ 2 ≤ Int32.toNatClampNeg 0))) dX12_clearBank_59 (fun H locs hP hD hS => ?_)
  replace hP : va_P D classes [(a0, .inr (12, MF ad 0 v3 0 (-1) v6 v7 v8 v9 vN 0 0 v37 v38 v39 v40 v41 0 0 0 0 0)), ((ad 11), .inl (cI, 2, .inl g_1)), ((ad 12), .inl (cI, 2, .inl g_2)), ((ad 13), .inl (cI, 2, .inl g_3)), ((ad 14), .inl (cI, 2, .inl g_4)), ((ad 15), .inl (cI, 2, .inl g_5)), ((ad 26), .inl (cZ, 2, .inl (upd fS (Int32.toNatClampNeg 0) (vp_nar .boolean 0)))), ((ad 27), .inl (cZ, 2, .inl fX))] H := hP
  replace hD : va_D A [(a0, .inr (12, MF ad 0 v3 0 (-1) v6 v7 v8 v9 vN 0 0 v37 v38 v39 v40 v41 0 0 0 0 0)), ((ad 11), .inl (cI, 2, .inl g_1)), ((ad 12), .inl (cI, 2, .inl g_2)), ((ad 13), .inl (cI, 2, .inl g_3)), ((ad 14), .inl (cI, 2, .inl g_4)), ((ad 15), .inl (cI, 2, .inl g_5)), ((ad 26), .inl (cZ, 2, .inl (upd fS (Int32.toNatClampNeg 0) (vp_nar .boolean 0)))), ((ad 27), .inl (cZ, 2, .inl fX))] := hD
  generalize eg_6 : upd fS (Int32.toNatClampNeg 0) (vp_nar .boolean 0) = g_6 at hP hD
  have g_6_1 : g_6 1 = 0 := by rw [← eg_6]; exact (pk_un (by decide)).trans hf_fS_1
  have g_6_0 : g_6 0 = 0 := by rw [← eg_6]; exact pk_us.trans (by decide)
  clear eg_6
  refine lv_aload_n hx hb dX12_clearBank_60 rfl (lv_at hl 0 rfl) ?_
  refine va_get (D := D) (ci := 12) (v := .ref (ad 27)) (C := RX12) (T := TX12) (N := 71) hx hb hts iw_X12_clearBank_X12 hown hK hP 0 rfl rfl 27 (by decide) (hts (.fieldLink RX12 70 "SoldHouseModel" "isDraw" "[Z") (List.mem_of_getElem? (i := 8) rfl)) (fun _ h9 => h9) rfl dX12_clearBank_61 ?_
  refine lv_aload_n hx hb dX12_clearBank_64 rfl (lv_at hl 0 rfl) ?_
  refine va_get (D := D) (ci := 12) (v := .int 0) (C := RX12) (T := TX12) (N := 71) hx hb hts iw_X12_clearBank_X12 hown hK hP 0 rfl rfl 36 (by decide) (hts (.fieldLink RX12 271 "SoldHouseModel" "rb" "I") (List.mem_of_getElem? (i := 2) rfl)) (fun _ h9 => h9) rfl dX12_clearBank_65 ?_
  refine lv_iconst (v := 0) hx hb dX12_clearBank_68 (by decide) ?_
  refine va_zast hx hb hK hP hD hS 7 3 rfl rfl (show vp_in 0 2 from (by decide : ¬ ((0 : Int32) < 0 ∨ 2 ≤ Int32.toNatClampNeg 0))) dX12_clearBank_69 (fun H locs hP hD hS => ?_)
  replace hP : va_P D classes [(a0, .inr (12, MF ad 0 v3 0 (-1) v6 v7 v8 v9 vN 0 0 v37 v38 v39 v40 v41 0 0 0 0 0)), ((ad 11), .inl (cI, 2, .inl g_1)), ((ad 12), .inl (cI, 2, .inl g_2)), ((ad 13), .inl (cI, 2, .inl g_3)), ((ad 14), .inl (cI, 2, .inl g_4)), ((ad 15), .inl (cI, 2, .inl g_5)), ((ad 26), .inl (cZ, 2, .inl g_6)), ((ad 27), .inl (cZ, 2, .inl (upd fX (Int32.toNatClampNeg 0) (vp_nar .boolean 0))))] H := hP
  replace hD : va_D A [(a0, .inr (12, MF ad 0 v3 0 (-1) v6 v7 v8 v9 vN 0 0 v37 v38 v39 v40 v41 0 0 0 0 0)), ((ad 11), .inl (cI, 2, .inl g_1)), ((ad 12), .inl (cI, 2, .inl g_2)), ((ad 13), .inl (cI, 2, .inl g_3)), ((ad 14), .inl (cI, 2, .inl g_4)), ((ad 15), .inl (cI, 2, .inl g_5)), ((ad 26), .inl (cZ, 2, .inl g_6)), ((ad 27), .inl (cZ, 2, .inl (upd fX (Int32.toNatClampNeg 0) (vp_nar .boolean 0))))] := hD
  generalize eg_7 : upd fX (Int32.toNatClampNeg 0) (vp_nar .boolean 0) = g_7 at hP hD
  have g_7_1 : g_7 1 = 0 := by rw [← eg_7]; exact (pk_un (by decide)).trans hf_fX_1
  have g_7_0 : g_7 0 = 0 := by rw [← eg_7]; exact pk_us.trans (by decide)
  clear eg_7
  refine lv_aload_n hx hb dX12_clearBank_70 rfl (lv_at hl 0 rfl) ?_
  refine lv_sipush (v := 560) hx hb dX12_clearBank_71 (by decide) ?_
  refine lv_aload_n hx hb dX12_clearBank_74 rfl (lv_at hl 0 rfl) ?_
  refine va_get (D := D) (ci := 12) (v := .int 0) (C := RX12) (T := TX12) (N := 71) hx hb hts iw_X12_clearBank_X12 hown hK hP 0 rfl rfl 36 (by decide) (hts (.fieldLink RX12 271 "SoldHouseModel" "rb" "I") (List.mem_of_getElem? (i := 2) rfl)) (fun _ h9 => h9) rfl dX12_clearBank_75 ?_
  refine lv_imul hx hb dX12_clearBank_78 ?_
  refine lv_topi (fun y_8 ey_8 => ?_)
  obtain rfl : y_8 = 0 := ey_8.trans (by decide)
  refine va_put (D := D) (ci := 12) (v := .int 0) (ty := tyX12 37) (C := RX12) (T := TX12) (N := 71) hx hb hts iw_X12_clearBank_X12 tyX12 tyX12_ok nmX12 hown hK hP hD hS 0 rfl rfl 37 (by decide) (hts (.fieldLink RX12 274 "SoldHouseModel" "codes" "I") (List.mem_of_getElem? (i := 9) rfl)) (fun _ h9 => h9) rfl (by decide +kernel) rfl rfl (Nat.le_of_ble_eq_true rfl) dX12_clearBank_79 (fun H locs hP hD hS => ?_)
  replace hP : va_P D classes [(a0, .inr (12, MF ad 0 v3 0 (-1) v6 v7 v8 v9 vN 0 0 0 v38 v39 v40 v41 0 0 0 0 0)), ((ad 11), .inl (cI, 2, .inl g_1)), ((ad 12), .inl (cI, 2, .inl g_2)), ((ad 13), .inl (cI, 2, .inl g_3)), ((ad 14), .inl (cI, 2, .inl g_4)), ((ad 15), .inl (cI, 2, .inl g_5)), ((ad 26), .inl (cZ, 2, .inl g_6)), ((ad 27), .inl (cZ, 2, .inl g_7))] H := hP
  replace hD : va_D A [(a0, .inr (12, MF ad 0 v3 0 (-1) v6 v7 v8 v9 vN 0 0 0 v38 v39 v40 v41 0 0 0 0 0)), ((ad 11), .inl (cI, 2, .inl g_1)), ((ad 12), .inl (cI, 2, .inl g_2)), ((ad 13), .inl (cI, 2, .inl g_3)), ((ad 14), .inl (cI, 2, .inl g_4)), ((ad 15), .inl (cI, 2, .inl g_5)), ((ad 26), .inl (cZ, 2, .inl g_6)), ((ad 27), .inl (cZ, 2, .inl g_7))] := hD
  have hP9 := hP.sub (ws' := [(a0, .inr (12, MF ad 0 v3 0 (-1) v6 v7 v8 v9 vN 0 0 0 v38 v39 v40 v41 0 0 0 0 0)), ((ad 11), .inl (cI, 2, .inl g_1)), ((ad 12), .inl (cI, 2, .inl g_2)), ((ad 13), .inl (cI, 2, .inl g_3)), ((ad 14), .inl (cI, 2, .inl g_4)), ((ad 15), .inl (cI, 2, .inl g_5)), ((ad 26), .inl (cZ, 2, .inl g_6)), ((ad 27), .inl (cZ, 2, .inl g_7))]) [0, 1, 2, 3, 4, 5, 6, 7] rfl
  have hD9 := hD.sub (ws' := [(a0, .inr (12, MF ad 0 v3 0 (-1) v6 v7 v8 v9 vN 0 0 0 v38 v39 v40 v41 0 0 0 0 0)), ((ad 11), .inl (cI, 2, .inl g_1)), ((ad 12), .inl (cI, 2, .inl g_2)), ((ad 13), .inl (cI, 2, .inl g_3)), ((ad 14), .inl (cI, 2, .inl g_4)), ((ad 15), .inl (cI, 2, .inl g_5)), ((ad 26), .inl (cZ, 2, .inl g_6)), ((ad 27), .inl (cZ, 2, .inl g_7))]) [0, 1, 2, 3, 4, 5, 6, 7] (by decide) rfl
  refine W.widen (k := 0) (n := 0) (Nat.le_of_ble_eq_true rfl) (Nat.le_of_ble_eq_true rfl) ?_
  exact W.vret hx hb hr (fun t ht hW => ⟨⟨(), rfl, trivial, ⟨g_1, g_2, g_3, g_4, g_5, g_6, g_7, g_1_0, g_1_1, g_2_0, g_2_1, g_3_0, g_3_1, g_4_0, g_4_1, g_5_0, g_5_1, g_6_0, g_6_1, g_7_0, g_7_1, by rw [ht]; exact hP9, hD9⟩⟩, hS.F ht⟩) hS.2.2 dX12_clearBank_82
set_option maxHeartbeats 4000000 in
set_option maxRecDepth 100000 in
theorem m_clearBank1 (l : Launch) (D : va_G) (cI : ClassId) (cB : ClassId) (cL : ClassId) (cZ : ClassId) (a0 : Nat) (ad : Nat → Nat) (v3 : Int32) (v6 : Int32) (v7 : Int32) (v8 : Int32) (v9 : Int32) (v37 : Int32) (v38 : Int32) (v39 : Int32) (v40 : Int32) (v41 : Int32) (vN : Int64) (fR : Nat → Int32) (fD : Nat → Int32) (fT : Nat → Int32) (fU : Nat → Int32) (fW : Nat → Int32) (fS : Nat → Int32) (fX : Nat → Int32) (sz : Nat) (hf_fR_0 : fR 0 = 0) (hf_fR_1 : fR 1 = 0) (hf_fD_0 : fD 0 = 0) (hf_fD_1 : fD 1 = 0) (hf_fT_0 : fT 0 = 0) (hf_fT_1 : fT 1 = 0) (hf_fU_0 : fU 0 = 0) (hf_fU_1 : fU 1 = 0) (hf_fW_0 : fW 0 = 0) (hf_fW_1 : fW 1 = 0) (hf_fS_0 : fS 0 = 0) (hf_fS_1 : fS 1 = 0) (hf_fX_0 : fX 0 = 0) (hf_fX_1 : fX 1 = 0) : Met l yX12_clearBank wsX12_clearBank ({ frames := 0, cells := 0, slots := 0, locals := 0 }) (xp D [(cI, .int), (cB, .byte), (cL, .long), (cZ, .boolean)] [(a0, .inr (12, MF ad 0 v3 0 (-1) v6 v7 v8 v9 vN 0 1 v37 v38 v39 v40 v41 0 0 0 0 0)), ((ad 11), .inl (cI, 2, .inl fR)), ((ad 12), .inl (cI, 2, .inl fD)), ((ad 13), .inl (cI, 2, .inl fT)), ((ad 14), .inl (cI, 2, .inl fU)), ((ad 15), .inl (cI, 2, .inl fW)), ((ad 26), .inl (cZ, 2, .inl fS)), ((ad 27), .inl (cZ, 2, .inl fX))] sz [] [.ref a0]) (va_Qv (fun _ : Unit => True) (fun (_ : Unit) (t : State) => ∃ (gR : Nat → Int32), ∃ (gD : Nat → Int32), ∃ (gT : Nat → Int32), ∃ (gU : Nat → Int32), ∃ (gW : Nat → Int32), ∃ (gS : Nat → Int32), ∃ (gX : Nat → Int32), gR 0 = 0 ∧ gR 1 = 0 ∧ gD 0 = 0 ∧ gD 1 = 0 ∧ gT 0 = 0 ∧ gT 1 = 0 ∧ gU 0 = 0 ∧ gU 1 = 0 ∧ gW 0 = 0 ∧ gW 1 = 0 ∧ gS 0 = 0 ∧ gS 1 = 0 ∧ gX 0 = 0 ∧ gX 1 = 0 ∧ xB D (va_A [(a0, .inr (12, MF ad 0 v3 0 (-1) v6 v7 v8 v9 vN 0 1 v37 v38 v39 v40 v41 0 0 0 0 0)), ((ad 11), .inl (cI, 2, .inl fR)), ((ad 12), .inl (cI, 2, .inl fD)), ((ad 13), .inl (cI, 2, .inl fT)), ((ad 14), .inl (cI, 2, .inl fU)), ((ad 15), .inl (cI, 2, .inl fW)), ((ad 26), .inl (cZ, 2, .inl fS)), ((ad 27), .inl (cZ, 2, .inl fX))] sz) [(a0, .inr (12, MF ad 0 v3 0 (-1) v6 v7 v8 v9 vN 0 1 560 v38 v39 v40 v41 0 0 0 0 0)), ((ad 11), .inl (cI, 2, .inl gR)), ((ad 12), .inl (cI, 2, .inl gD)), ((ad 13), .inl (cI, 2, .inl gT)), ((ad 14), .inl (cI, 2, .inl gU)), ((ad 15), .inl (cI, 2, .inl gW)), ((ad 26), .inl (cZ, 2, .inl gS)), ((ad 27), .inl (cZ, 2, .inl gX))] t) (va_A [(a0, .inr (12, MF ad 0 v3 0 (-1) v6 v7 v8 v9 vN 0 1 v37 v38 v39 v40 v41 0 0 0 0 0)), ((ad 11), .inl (cI, 2, .inl fR)), ((ad 12), .inl (cI, 2, .inl fD)), ((ad 13), .inl (cI, 2, .inl fT)), ((ad 14), .inl (cI, 2, .inl fU)), ((ad 15), .inl (cI, 2, .inl fW)), ((ad 26), .inl (cZ, 2, .inl fS)), ((ad 27), .inl (cZ, 2, .inl fX))] sz)) 0 0 (va_A [(a0, .inr (12, MF ad 0 v3 0 (-1) v6 v7 v8 v9 vN 0 1 v37 v38 v39 v40 v41 0 0 0 0 0)), ((ad 11), .inl (cI, 2, .inl fR)), ((ad 12), .inl (cI, 2, .inl fD)), ((ad 13), .inl (cI, 2, .inl fT)), ((ad 14), .inl (cI, 2, .inl fU)), ((ad 15), .inl (cI, 2, .inl fW)), ((ad 26), .inl (cZ, 2, .inl fS)), ((ad 27), .inl (cZ, 2, .inl fX))] sz) := by
  refine Met.ofW (cc := cX12_clearBank) (maxL := 1) (ret := none) (by decide) rfl ?_
  intro p e s m args below meth c s₁ B hml hv
  obtain ⟨rfl, hsz, hP, hK, hD0, hNw⟩ := hv
  have hx := B.exec
  have hb := B.bytes
  have hr := B.returns
  have hts := atoms_spec (ws := wsX12_clearBank) B.pre
  have hown : s.vm.findClass RX12 = some m.cls := findClass_of_methodNamed B.named
  have hlocks := B.notSynchronized
  subst hsz
  have hD := hD0.self (sz := s.heap.size)
  clear hD0
  generalize hAe : va_A [(a0, .inr (12, MF ad 0 v3 0 (-1) v6 v7 v8 v9 vN 0 1 v37 v38 v39 v40 v41 0 0 0 0 0)), ((ad 11), .inl (cI, 2, .inl fR)), ((ad 12), .inl (cI, 2, .inl fD)), ((ad 13), .inl (cI, 2, .inl fT)), ((ad 14), .inl (cI, 2, .inl fU)), ((ad 15), .inl (cI, 2, .inl fW)), ((ad 26), .inl (cZ, 2, .inl fS)), ((ad 27), .inl (cZ, 2, .inl fX))] s.heap.size = A at hD ⊢
  have hA : ∀ q : Nat, s.heap.size ≤ q → A q := fun q h => by rw [← hAe]; exact Or.inr h
  have hS : va_S A s.heap s.heap [] := va_S.rf
  clear hAe
  obtain ⟨H, hH⟩ : ∃ H : Heap, H = s.heap := ⟨_, rfl⟩
  obtain ⟨locs, hlocs⟩ : ∃ L : List Loc, L = [] := ⟨_, rfl⟩
  replace hP : va_P D classes [(a0, .inr (12, MF ad 0 v3 0 (-1) v6 v7 v8 v9 vN 0 1 v37 v38 v39 v40 v41 0 0 0 0 0)), ((ad 11), .inl (cI, 2, .inl fR)), ((ad 12), .inl (cI, 2, .inl fD)), ((ad 13), .inl (cI, 2, .inl fT)), ((ad 14), .inl (cI, 2, .inl fU)), ((ad 15), .inl (cI, 2, .inl fW)), ((ad 26), .inl (cZ, 2, .inl fS)), ((ad 27), .inl (cZ, 2, .inl fX))] H := by rw [hH]; exact hP
  replace hS : va_S A s.heap H locs := by rw [hH, hlocs]; exact hS
  rw [← hH, ← hlocs]
  clear hlocs hH
  have hl := lv_entry ([.ref a0]) (n := 1) (Nat.le_of_ble_eq_true rfl)
  rw [lg_entry_eq]
  generalize (lg_sl ([.ref a0]) ++ List.replicate (1 - (lg_sl ([.ref a0])).length) Slot.unset).toArray = ls at hl ⊢
  replace hl : lv_has ls 1 [(0, .ref a0)] := hl
  refine lv_aload_n hx hb dX12_clearBank_0 rfl (lv_at hl 0 rfl) ?_
  refine va_get (D := D) (ci := 12) (v := .ref (ad 11)) (C := RX12) (T := TX12) (N := 71) hx hb hts iw_X12_clearBank_X12 hown hK hP 0 rfl rfl 11 (by decide) (hts (.fieldLink RX12 20 "SoldHouseModel" "rooms" "[I") (List.mem_of_getElem? (i := 1) rfl)) (fun _ h9 => h9) rfl dX12_clearBank_1 ?_
  refine lv_aload_n hx hb dX12_clearBank_4 rfl (lv_at hl 0 rfl) ?_
  refine va_get (D := D) (ci := 12) (v := .int 1) (C := RX12) (T := TX12) (N := 71) hx hb hts iw_X12_clearBank_X12 hown hK hP 0 rfl rfl 36 (by decide) (hts (.fieldLink RX12 271 "SoldHouseModel" "rb" "I") (List.mem_of_getElem? (i := 2) rfl)) (fun _ h9 => h9) rfl dX12_clearBank_5 ?_
  refine lv_iconst (v := 0) hx hb dX12_clearBank_8 (by decide) ?_
  refine va_iast hx hb hK hP hD hS 1 0 rfl rfl (show vp_in 1 2 from (by decide : ¬ ((1 : Int32) < 0 ∨ 2 ≤ Int32.toNatClampNeg 1))) dX12_clearBank_9 (fun H locs hP hD hS => ?_)
  replace hP : va_P D classes [(a0, .inr (12, MF ad 0 v3 0 (-1) v6 v7 v8 v9 vN 0 1 v37 v38 v39 v40 v41 0 0 0 0 0)), ((ad 11), .inl (cI, 2, .inl (upd fR (Int32.toNatClampNeg 1) 0))), ((ad 12), .inl (cI, 2, .inl fD)), ((ad 13), .inl (cI, 2, .inl fT)), ((ad 14), .inl (cI, 2, .inl fU)), ((ad 15), .inl (cI, 2, .inl fW)), ((ad 26), .inl (cZ, 2, .inl fS)), ((ad 27), .inl (cZ, 2, .inl fX))] H := hP
  replace hD : va_D A [(a0, .inr (12, MF ad 0 v3 0 (-1) v6 v7 v8 v9 vN 0 1 v37 v38 v39 v40 v41 0 0 0 0 0)), ((ad 11), .inl (cI, 2, .inl (upd fR (Int32.toNatClampNeg 1) 0))), ((ad 12), .inl (cI, 2, .inl fD)), ((ad 13), .inl (cI, 2, .inl fT)), ((ad 14), .inl (cI, 2, .inl fU)), ((ad 15), .inl (cI, 2, .inl fW)), ((ad 26), .inl (cZ, 2, .inl fS)), ((ad 27), .inl (cZ, 2, .inl fX))] := hD
  generalize eg_1 : upd fR (Int32.toNatClampNeg 1) 0 = g_1 at hP hD
  have g_1_0 : g_1 0 = 0 := by rw [← eg_1]; exact (pk_un (by decide)).trans hf_fR_0
  have g_1_1 : g_1 1 = 0 := by rw [← eg_1]; exact pk_us
  clear eg_1
  refine lv_aload_n hx hb dX12_clearBank_10 rfl (lv_at hl 0 rfl) ?_
  refine va_get (D := D) (ci := 12) (v := .ref (ad 12)) (C := RX12) (T := TX12) (N := 71) hx hb hts iw_X12_clearBank_X12 hown hK hP 0 rfl rfl 12 (by decide) (hts (.fieldLink RX12 24 "SoldHouseModel" "doors" "[I") (List.mem_of_getElem? (i := 3) rfl)) (fun _ h9 => h9) rfl dX12_clearBank_11 ?_
  refine lv_aload_n hx hb dX12_clearBank_14 rfl (lv_at hl 0 rfl) ?_
  refine va_get (D := D) (ci := 12) (v := .int 1) (C := RX12) (T := TX12) (N := 71) hx hb hts iw_X12_clearBank_X12 hown hK hP 0 rfl rfl 36 (by decide) (hts (.fieldLink RX12 271 "SoldHouseModel" "rb" "I") (List.mem_of_getElem? (i := 2) rfl)) (fun _ h9 => h9) rfl dX12_clearBank_15 ?_
  refine lv_iconst (v := 0) hx hb dX12_clearBank_18 (by decide) ?_
  refine va_iast hx hb hK hP hD hS 2 0 rfl rfl (show vp_in 1 2 from (by decide : ¬ ((1 : Int32) < 0 ∨ 2 ≤ Int32.toNatClampNeg 1))) dX12_clearBank_19 (fun H locs hP hD hS => ?_)
  replace hP : va_P D classes [(a0, .inr (12, MF ad 0 v3 0 (-1) v6 v7 v8 v9 vN 0 1 v37 v38 v39 v40 v41 0 0 0 0 0)), ((ad 11), .inl (cI, 2, .inl g_1)), ((ad 12), .inl (cI, 2, .inl (upd fD (Int32.toNatClampNeg 1) 0))), ((ad 13), .inl (cI, 2, .inl fT)), ((ad 14), .inl (cI, 2, .inl fU)), ((ad 15), .inl (cI, 2, .inl fW)), ((ad 26), .inl (cZ, 2, .inl fS)), ((ad 27), .inl (cZ, 2, .inl fX))] H := hP
  replace hD : va_D A [(a0, .inr (12, MF ad 0 v3 0 (-1) v6 v7 v8 v9 vN 0 1 v37 v38 v39 v40 v41 0 0 0 0 0)), ((ad 11), .inl (cI, 2, .inl g_1)), ((ad 12), .inl (cI, 2, .inl (upd fD (Int32.toNatClampNeg 1) 0))), ((ad 13), .inl (cI, 2, .inl fT)), ((ad 14), .inl (cI, 2, .inl fU)), ((ad 15), .inl (cI, 2, .inl fW)), ((ad 26), .inl (cZ, 2, .inl fS)), ((ad 27), .inl (cZ, 2, .inl fX))] := hD
  generalize eg_2 : upd fD (Int32.toNatClampNeg 1) 0 = g_2 at hP hD
  have g_2_0 : g_2 0 = 0 := by rw [← eg_2]; exact (pk_un (by decide)).trans hf_fD_0
  have g_2_1 : g_2 1 = 0 := by rw [← eg_2]; exact pk_us
  clear eg_2
  refine lv_aload_n hx hb dX12_clearBank_20 rfl (lv_at hl 0 rfl) ?_
  refine va_get (D := D) (ci := 12) (v := .ref (ad 13)) (C := RX12) (T := TX12) (N := 71) hx hb hts iw_X12_clearBank_X12 hown hK hP 0 rfl rfl 13 (by decide) (hts (.fieldLink RX12 27 "SoldHouseModel" "things" "[I") (List.mem_of_getElem? (i := 4) rfl)) (fun _ h9 => h9) rfl dX12_clearBank_21 ?_
  refine lv_aload_n hx hb dX12_clearBank_24 rfl (lv_at hl 0 rfl) ?_
  refine va_get (D := D) (ci := 12) (v := .int 1) (C := RX12) (T := TX12) (N := 71) hx hb hts iw_X12_clearBank_X12 hown hK hP 0 rfl rfl 36 (by decide) (hts (.fieldLink RX12 271 "SoldHouseModel" "rb" "I") (List.mem_of_getElem? (i := 2) rfl)) (fun _ h9 => h9) rfl dX12_clearBank_25 ?_
  refine lv_iconst (v := 0) hx hb dX12_clearBank_28 (by decide) ?_
  refine va_iast hx hb hK hP hD hS 3 0 rfl rfl (show vp_in 1 2 from (by decide : ¬ ((1 : Int32) < 0 ∨ 2 ≤ Int32.toNatClampNeg 1))) dX12_clearBank_29 (fun H locs hP hD hS => ?_)
  replace hP : va_P D classes [(a0, .inr (12, MF ad 0 v3 0 (-1) v6 v7 v8 v9 vN 0 1 v37 v38 v39 v40 v41 0 0 0 0 0)), ((ad 11), .inl (cI, 2, .inl g_1)), ((ad 12), .inl (cI, 2, .inl g_2)), ((ad 13), .inl (cI, 2, .inl (upd fT (Int32.toNatClampNeg 1) 0))), ((ad 14), .inl (cI, 2, .inl fU)), ((ad 15), .inl (cI, 2, .inl fW)), ((ad 26), .inl (cZ, 2, .inl fS)), ((ad 27), .inl (cZ, 2, .inl fX))] H := hP
  replace hD : va_D A [(a0, .inr (12, MF ad 0 v3 0 (-1) v6 v7 v8 v9 vN 0 1 v37 v38 v39 v40 v41 0 0 0 0 0)), ((ad 11), .inl (cI, 2, .inl g_1)), ((ad 12), .inl (cI, 2, .inl g_2)), ((ad 13), .inl (cI, 2, .inl (upd fT (Int32.toNatClampNeg 1) 0))), ((ad 14), .inl (cI, 2, .inl fU)), ((ad 15), .inl (cI, 2, .inl fW)), ((ad 26), .inl (cZ, 2, .inl fS)), ((ad 27), .inl (cZ, 2, .inl fX))] := hD
  generalize eg_3 : upd fT (Int32.toNatClampNeg 1) 0 = g_3 at hP hD
  have g_3_0 : g_3 0 = 0 := by rw [← eg_3]; exact (pk_un (by decide)).trans hf_fT_0
  have g_3_1 : g_3 1 = 0 := by rw [← eg_3]; exact pk_us
  clear eg_3
  refine lv_aload_n hx hb dX12_clearBank_30 rfl (lv_at hl 0 rfl) ?_
  refine va_get (D := D) (ci := 12) (v := .ref (ad 14)) (C := RX12) (T := TX12) (N := 71) hx hb hts iw_X12_clearBank_X12 hown hK hP 0 rfl rfl 14 (by decide) (hts (.fieldLink RX12 30 "SoldHouseModel" "units" "[I") (List.mem_of_getElem? (i := 5) rfl)) (fun _ h9 => h9) rfl dX12_clearBank_31 ?_
  refine lv_aload_n hx hb dX12_clearBank_34 rfl (lv_at hl 0 rfl) ?_
  refine va_get (D := D) (ci := 12) (v := .int 1) (C := RX12) (T := TX12) (N := 71) hx hb hts iw_X12_clearBank_X12 hown hK hP 0 rfl rfl 36 (by decide) (hts (.fieldLink RX12 271 "SoldHouseModel" "rb" "I") (List.mem_of_getElem? (i := 2) rfl)) (fun _ h9 => h9) rfl dX12_clearBank_35 ?_
  refine lv_iconst (v := 0) hx hb dX12_clearBank_38 (by decide) ?_
  refine va_iast hx hb hK hP hD hS 4 0 rfl rfl (show vp_in 1 2 from (by decide : ¬ ((1 : Int32) < 0 ∨ 2 ≤ Int32.toNatClampNeg 1))) dX12_clearBank_39 (fun H locs hP hD hS => ?_)
  replace hP : va_P D classes [(a0, .inr (12, MF ad 0 v3 0 (-1) v6 v7 v8 v9 vN 0 1 v37 v38 v39 v40 v41 0 0 0 0 0)), ((ad 11), .inl (cI, 2, .inl g_1)), ((ad 12), .inl (cI, 2, .inl g_2)), ((ad 13), .inl (cI, 2, .inl g_3)), ((ad 14), .inl (cI, 2, .inl (upd fU (Int32.toNatClampNeg 1) 0))), ((ad 15), .inl (cI, 2, .inl fW)), ((ad 26), .inl (cZ, 2, .inl fS)), ((ad 27), .inl (cZ, 2, .inl fX))] H := hP
  replace hD : va_D A [(a0, .inr (12, MF ad 0 v3 0 (-1) v6 v7 v8 v9 vN 0 1 v37 v38 v39 v40 v41 0 0 0 0 0)), ((ad 11), .inl (cI, 2, .inl g_1)), ((ad 12), .inl (cI, 2, .inl g_2)), ((ad 13), .inl (cI, 2, .inl g_3)), ((ad 14), .inl (cI, 2, .inl (upd fU (Int32.toNatClampNeg 1) 0))), ((ad 15), .inl (cI, 2, .inl fW)), ((ad 26), .inl (cZ, 2, .inl fS)), ((ad 27), .inl (cZ, 2, .inl fX))] := hD
  generalize eg_4 : upd fU (Int32.toNatClampNeg 1) 0 = g_4 at hP hD
  have g_4_0 : g_4 0 = 0 := by rw [← eg_4]; exact (pk_un (by decide)).trans hf_fU_0
  have g_4_1 : g_4 1 = 0 := by rw [← eg_4]; exact pk_us
  clear eg_4
  refine lv_aload_n hx hb dX12_clearBank_40 rfl (lv_at hl 0 rfl) ?_
  refine va_get (D := D) (ci := 12) (v := .ref (ad 15)) (C := RX12) (T := TX12) (N := 71) hx hb hts iw_X12_clearBank_X12 hown hK hP 0 rfl rfl 15 (by decide) (hts (.fieldLink RX12 33 "SoldHouseModel" "draw" "[I") (List.mem_of_getElem? (i := 6) rfl)) (fun _ h9 => h9) rfl dX12_clearBank_41 ?_
  refine lv_aload_n hx hb dX12_clearBank_44 rfl (lv_at hl 0 rfl) ?_
  refine va_get (D := D) (ci := 12) (v := .int 1) (C := RX12) (T := TX12) (N := 71) hx hb hts iw_X12_clearBank_X12 hown hK hP 0 rfl rfl 36 (by decide) (hts (.fieldLink RX12 271 "SoldHouseModel" "rb" "I") (List.mem_of_getElem? (i := 2) rfl)) (fun _ h9 => h9) rfl dX12_clearBank_45 ?_
  refine lv_iconst (v := 0) hx hb dX12_clearBank_48 (by decide) ?_
  refine va_iast hx hb hK hP hD hS 5 0 rfl rfl (show vp_in 1 2 from (by decide : ¬ ((1 : Int32) < 0 ∨ 2 ≤ Int32.toNatClampNeg 1))) dX12_clearBank_49 (fun H locs hP hD hS => ?_)
  replace hP : va_P D classes [(a0, .inr (12, MF ad 0 v3 0 (-1) v6 v7 v8 v9 vN 0 1 v37 v38 v39 v40 v41 0 0 0 0 0)), ((ad 11), .inl (cI, 2, .inl g_1)), ((ad 12), .inl (cI, 2, .inl g_2)), ((ad 13), .inl (cI, 2, .inl g_3)), ((ad 14), .inl (cI, 2, .inl g_4)), ((ad 15), .inl (cI, 2, .inl (upd fW (Int32.toNatClampNeg 1) 0))), ((ad 26), .inl (cZ, 2, .inl fS)), ((ad 27), .inl (cZ, 2, .inl fX))] H := hP
  replace hD : va_D A [(a0, .inr (12, MF ad 0 v3 0 (-1) v6 v7 v8 v9 vN 0 1 v37 v38 v39 v40 v41 0 0 0 0 0)), ((ad 11), .inl (cI, 2, .inl g_1)), ((ad 12), .inl (cI, 2, .inl g_2)), ((ad 13), .inl (cI, 2, .inl g_3)), ((ad 14), .inl (cI, 2, .inl g_4)), ((ad 15), .inl (cI, 2, .inl (upd fW (Int32.toNatClampNeg 1) 0))), ((ad 26), .inl (cZ, 2, .inl fS)), ((ad 27), .inl (cZ, 2, .inl fX))] := hD
  generalize eg_5 : upd fW (Int32.toNatClampNeg 1) 0 = g_5 at hP hD
  have g_5_0 : g_5 0 = 0 := by rw [← eg_5]; exact (pk_un (by decide)).trans hf_fW_0
  have g_5_1 : g_5 1 = 0 := by rw [← eg_5]; exact pk_us
  clear eg_5
  refine lv_aload_n hx hb dX12_clearBank_50 rfl (lv_at hl 0 rfl) ?_
  refine va_get (D := D) (ci := 12) (v := .ref (ad 26)) (C := RX12) (T := TX12) (N := 71) hx hb hts iw_X12_clearBank_X12 hown hK hP 0 rfl rfl 26 (by decide) (hts (.fieldLink RX12 66 "SoldHouseModel" "hasSure" "[Z") (List.mem_of_getElem? (i := 7) rfl)) (fun _ h9 => h9) rfl dX12_clearBank_51 ?_
  refine lv_aload_n hx hb dX12_clearBank_54 rfl (lv_at hl 0 rfl) ?_
  refine va_get (D := D) (ci := 12) (v := .int 1) (C := RX12) (T := TX12) (N := 71) hx hb hts iw_X12_clearBank_X12 hown hK hP 0 rfl rfl 36 (by decide) (hts (.fieldLink RX12 271 "SoldHouseModel" "rb" "I") (List.mem_of_getElem? (i := 2) rfl)) (fun _ h9 => h9) rfl dX12_clearBank_55 ?_
  refine lv_iconst (v := 0) hx hb dX12_clearBank_58 (by decide) ?_
  refine va_zast hx hb hK hP hD hS 6 3 rfl rfl (show vp_in 1 2 from (by decide : ¬ ((1 : Int32) < 0 ∨ 2 ≤ Int32.toNatClampNeg 1))) dX12_clearBank_59 (fun H locs hP hD hS => ?_)
  replace hP : va_P D classes [(a0, .inr (12, MF ad 0 v3 0 (-1) v6 v7 v8 v9 vN 0 1 v37 v38 v39 v40 v41 0 0 0 0 0)), ((ad 11), .inl (cI, 2, .inl g_1)), ((ad 12), .inl (cI, 2, .inl g_2)), ((ad 13), .inl (cI, 2, .inl g_3)), ((ad 14), .inl (cI, 2, .inl g_4)), ((ad 15), .inl (cI, 2, .inl g_5)), ((ad 26), .inl (cZ, 2, .inl (upd fS (Int32.toNatClampNeg 1) (vp_nar .boolean 0)))), ((ad 27), .inl (cZ, 2, .inl fX))] H := hP
  replace hD : va_D A [(a0, .inr (12, MF ad 0 v3 0 (-1) v6 v7 v8 v9 vN 0 1 v37 v38 v39 v40 v41 0 0 0 0 0)), ((ad 11), .inl (cI, 2, .inl g_1)), ((ad 12), .inl (cI, 2, .inl g_2)), ((ad 13), .inl (cI, 2, .inl g_3)), ((ad 14), .inl (cI, 2, .inl g_4)), ((ad 15), .inl (cI, 2, .inl g_5)), ((ad 26), .inl (cZ, 2, .inl (upd fS (Int32.toNatClampNeg 1) (vp_nar .boolean 0)))), ((ad 27), .inl (cZ, 2, .inl fX))] := hD
  generalize eg_6 : upd fS (Int32.toNatClampNeg 1) (vp_nar .boolean 0) = g_6 at hP hD
  have g_6_0 : g_6 0 = 0 := by rw [← eg_6]; exact (pk_un (by decide)).trans hf_fS_0
  have g_6_1 : g_6 1 = 0 := by rw [← eg_6]; exact pk_us.trans (by decide)
  clear eg_6
  refine lv_aload_n hx hb dX12_clearBank_60 rfl (lv_at hl 0 rfl) ?_
  refine va_get (D := D) (ci := 12) (v := .ref (ad 27)) (C := RX12) (T := TX12) (N := 71) hx hb hts iw_X12_clearBank_X12 hown hK hP 0 rfl rfl 27 (by decide) (hts (.fieldLink RX12 70 "SoldHouseModel" "isDraw" "[Z") (List.mem_of_getElem? (i := 8) rfl)) (fun _ h9 => h9) rfl dX12_clearBank_61 ?_
  refine lv_aload_n hx hb dX12_clearBank_64 rfl (lv_at hl 0 rfl) ?_
  refine va_get (D := D) (ci := 12) (v := .int 1) (C := RX12) (T := TX12) (N := 71) hx hb hts iw_X12_clearBank_X12 hown hK hP 0 rfl rfl 36 (by decide) (hts (.fieldLink RX12 271 "SoldHouseModel" "rb" "I") (List.mem_of_getElem? (i := 2) rfl)) (fun _ h9 => h9) rfl dX12_clearBank_65 ?_
  refine lv_iconst (v := 0) hx hb dX12_clearBank_68 (by decide) ?_
  refine va_zast hx hb hK hP hD hS 7 3 rfl rfl (show vp_in 1 2 from (by decide : ¬ ((1 : Int32) < 0 ∨ 2 ≤ Int32.toNatClampNeg 1))) dX12_clearBank_69 (fun H locs hP hD hS => ?_)
  replace hP : va_P D classes [(a0, .inr (12, MF ad 0 v3 0 (-1) v6 v7 v8 v9 vN 0 1 v37 v38 v39 v40 v41 0 0 0 0 0)), ((ad 11), .inl (cI, 2, .inl g_1)), ((ad 12), .inl (cI, 2, .inl g_2)), ((ad 13), .inl (cI, 2, .inl g_3)), ((ad 14), .inl (cI, 2, .inl g_4)), ((ad 15), .inl (cI, 2, .inl g_5)), ((ad 26), .inl (cZ, 2, .inl g_6)), ((ad 27), .inl (cZ, 2, .inl (upd fX (Int32.toNatClampNeg 1) (vp_nar .boolean 0))))] H := hP
  replace hD : va_D A [(a0, .inr (12, MF ad 0 v3 0 (-1) v6 v7 v8 v9 vN 0 1 v37 v38 v39 v40 v41 0 0 0 0 0)), ((ad 11), .inl (cI, 2, .inl g_1)), ((ad 12), .inl (cI, 2, .inl g_2)), ((ad 13), .inl (cI, 2, .inl g_3)), ((ad 14), .inl (cI, 2, .inl g_4)), ((ad 15), .inl (cI, 2, .inl g_5)), ((ad 26), .inl (cZ, 2, .inl g_6)), ((ad 27), .inl (cZ, 2, .inl (upd fX (Int32.toNatClampNeg 1) (vp_nar .boolean 0))))] := hD
  generalize eg_7 : upd fX (Int32.toNatClampNeg 1) (vp_nar .boolean 0) = g_7 at hP hD
  have g_7_0 : g_7 0 = 0 := by rw [← eg_7]; exact (pk_un (by decide)).trans hf_fX_0
  have g_7_1 : g_7 1 = 0 := by rw [← eg_7]; exact pk_us.trans (by decide)
  clear eg_7
  refine lv_aload_n hx hb dX12_clearBank_70 rfl (lv_at hl 0 rfl) ?_
  refine lv_sipush (v := 560) hx hb dX12_clearBank_71 (by decide) ?_
  refine lv_aload_n hx hb dX12_clearBank_74 rfl (lv_at hl 0 rfl) ?_
  refine va_get (D := D) (ci := 12) (v := .int 1) (C := RX12) (T := TX12) (N := 71) hx hb hts iw_X12_clearBank_X12 hown hK hP 0 rfl rfl 36 (by decide) (hts (.fieldLink RX12 271 "SoldHouseModel" "rb" "I") (List.mem_of_getElem? (i := 2) rfl)) (fun _ h9 => h9) rfl dX12_clearBank_75 ?_
  refine lv_imul hx hb dX12_clearBank_78 ?_
  refine lv_topi (fun y_8 ey_8 => ?_)
  obtain rfl : y_8 = 560 := ey_8.trans (by decide)
  refine va_put (D := D) (ci := 12) (v := .int 560) (ty := tyX12 37) (C := RX12) (T := TX12) (N := 71) hx hb hts iw_X12_clearBank_X12 tyX12 tyX12_ok nmX12 hown hK hP hD hS 0 rfl rfl 37 (by decide) (hts (.fieldLink RX12 274 "SoldHouseModel" "codes" "I") (List.mem_of_getElem? (i := 9) rfl)) (fun _ h9 => h9) rfl (by decide +kernel) rfl rfl (Nat.le_of_ble_eq_true rfl) dX12_clearBank_79 (fun H locs hP hD hS => ?_)
  replace hP : va_P D classes [(a0, .inr (12, MF ad 0 v3 0 (-1) v6 v7 v8 v9 vN 0 1 560 v38 v39 v40 v41 0 0 0 0 0)), ((ad 11), .inl (cI, 2, .inl g_1)), ((ad 12), .inl (cI, 2, .inl g_2)), ((ad 13), .inl (cI, 2, .inl g_3)), ((ad 14), .inl (cI, 2, .inl g_4)), ((ad 15), .inl (cI, 2, .inl g_5)), ((ad 26), .inl (cZ, 2, .inl g_6)), ((ad 27), .inl (cZ, 2, .inl g_7))] H := hP
  replace hD : va_D A [(a0, .inr (12, MF ad 0 v3 0 (-1) v6 v7 v8 v9 vN 0 1 560 v38 v39 v40 v41 0 0 0 0 0)), ((ad 11), .inl (cI, 2, .inl g_1)), ((ad 12), .inl (cI, 2, .inl g_2)), ((ad 13), .inl (cI, 2, .inl g_3)), ((ad 14), .inl (cI, 2, .inl g_4)), ((ad 15), .inl (cI, 2, .inl g_5)), ((ad 26), .inl (cZ, 2, .inl g_6)), ((ad 27), .inl (cZ, 2, .inl g_7))] := hD
  have hP9 := hP.sub (ws' := [(a0, .inr (12, MF ad 0 v3 0 (-1) v6 v7 v8 v9 vN 0 1 560 v38 v39 v40 v41 0 0 0 0 0)), ((ad 11), .inl (cI, 2, .inl g_1)), ((ad 12), .inl (cI, 2, .inl g_2)), ((ad 13), .inl (cI, 2, .inl g_3)), ((ad 14), .inl (cI, 2, .inl g_4)), ((ad 15), .inl (cI, 2, .inl g_5)), ((ad 26), .inl (cZ, 2, .inl g_6)), ((ad 27), .inl (cZ, 2, .inl g_7))]) [0, 1, 2, 3, 4, 5, 6, 7] rfl
  have hD9 := hD.sub (ws' := [(a0, .inr (12, MF ad 0 v3 0 (-1) v6 v7 v8 v9 vN 0 1 560 v38 v39 v40 v41 0 0 0 0 0)), ((ad 11), .inl (cI, 2, .inl g_1)), ((ad 12), .inl (cI, 2, .inl g_2)), ((ad 13), .inl (cI, 2, .inl g_3)), ((ad 14), .inl (cI, 2, .inl g_4)), ((ad 15), .inl (cI, 2, .inl g_5)), ((ad 26), .inl (cZ, 2, .inl g_6)), ((ad 27), .inl (cZ, 2, .inl g_7))]) [0, 1, 2, 3, 4, 5, 6, 7] (by decide) rfl
  refine W.widen (k := 0) (n := 0) (Nat.le_of_ble_eq_true rfl) (Nat.le_of_ble_eq_true rfl) ?_
  exact W.vret hx hb hr (fun t ht hW => ⟨⟨(), rfl, trivial, ⟨g_1, g_2, g_3, g_4, g_5, g_6, g_7, g_1_0, g_1_1, g_2_0, g_2_1, g_3_0, g_3_1, g_4_0, g_4_1, g_5_0, g_5_1, g_6_0, g_6_1, g_7_0, g_7_1, by rw [ht]; exact hP9, hD9⟩⟩, hS.F ht⟩) hS.2.2 dX12_clearBank_82
set_option maxHeartbeats 4000000 in
set_option maxRecDepth 100000 in
theorem m_places1 (l : Launch) (D : va_G) (cI : ClassId) (cB : ClassId) (cL : ClassId) (cZ : ClassId) (a0 : Nat) (ad : Nat → Nat) (v3 : Int32) (v6 : Int32) (v7 : Int32) (v8 : Int32) (v9 : Int32) (v36 : Int32) (v37 : Int32) (v38 : Int32) (v39 : Int32) (v40 : Int32) (v41 : Int32) (vN : Int64) (fR : Nat → Int32) (hf_fR_1 : fR 1 = 0) : Met l yX12_places wsX12_places ({ frames := 0, cells := 0, slots := 0, locals := 0 }) (xr D [(cI, .int), (cB, .byte), (cL, .long), (cZ, .boolean)] [(a0, .inr (12, MF ad 0 v3 0 (-1) v6 v7 v8 v9 vN 1 v36 v37 v38 v39 v40 v41 0 0 0 0 0)), ((ad 11), .inl (cI, 2, .inl fR))] [.ref a0]) (vp_Si (fun r => r = 0)) 0 0 (fun _ => False) := by
  refine Met.ofW (cc := cX12_places) (maxL := 1) (ret := (some .int)) (by decide) rfl ?_
  intro p e s m args below meth c s₁ B hml hv
  obtain ⟨rfl, hP, hK⟩ := hv
  have hx := B.exec
  have hb := B.bytes
  have hr := B.returns
  have hts := atoms_spec (ws := wsX12_places) B.pre
  have hown : s.vm.findClass RX12 = some m.cls := findClass_of_methodNamed B.named
  have hlocks := B.notSynchronized
  have hl := lv_entry ([.ref a0]) (n := 1) (Nat.le_of_ble_eq_true rfl)
  rw [lg_entry_eq]
  generalize (lg_sl ([.ref a0]) ++ List.replicate (1 - (lg_sl ([.ref a0])).length) Slot.unset).toArray = ls at hl ⊢
  replace hl : lv_has ls 1 [(0, .ref a0)] := hl
  refine lv_aload_n hx hb dX12_places_0 rfl (lv_at hl 0 rfl) ?_
  refine va_get (D := D) (ci := 12) (v := .ref (ad 11)) (C := RX12) (T := TX12) (N := 71) hx hb hts iw_X12_places_X12 hown hK hP 0 rfl rfl 11 (by decide) (hts (.fieldLink RX12 20 "SoldHouseModel" "rooms" "[I") (List.mem_of_getElem? (i := 1) rfl)) (fun _ h9 => h9) rfl dX12_places_1 ?_
  refine lv_aload_n hx hb dX12_places_4 rfl (lv_at hl 0 rfl) ?_
  refine va_get (D := D) (ci := 12) (v := .int 1) (C := RX12) (T := TX12) (N := 71) hx hb hts iw_X12_places_X12 hown hK hP 0 rfl rfl 35 (by decide) (hts (.fieldLink RX12 280 "SoldHouseModel" "bank" "I") (List.mem_of_getElem? (i := 2) rfl)) (fun _ h9 => h9) rfl dX12_places_5 ?_
  refine va_iald hx hb hK hP 1 0 rfl rfl (show vp_in 1 2 from (by decide : ¬ ((1 : Int32) < 0 ∨ 2 ≤ Int32.toNatClampNeg 1))) dX12_places_8 ?_
  refine lv_topi (fun y_1 ey_1 => ?_)
  obtain rfl : y_1 = 0 := ey_1.trans hf_fR_1
  exact W.iret (v := 0) hx hb hr (fun t ht hW => ⟨0, rfl, rfl, ht⟩) (fun q hq => by cases hq) dX12_places_9
set_option maxHeartbeats 4000000 in
set_option maxRecDepth 100000 in
theorem m_many1 (l : Launch) (D : va_G) (cI : ClassId) (cB : ClassId) (cL : ClassId) (cZ : ClassId) (a0 : Nat) (ad : Nat → Nat) (v3 : Int32) (v6 : Int32) (v7 : Int32) (v8 : Int32) (v9 : Int32) (v36 : Int32) (v37 : Int32) (v38 : Int32) (v39 : Int32) (v40 : Int32) (v41 : Int32) (vN : Int64) (fT : Nat → Int32) (hf_fT_1 : fT 1 = 0) : Met l yX12_many wsX12_many ({ frames := 0, cells := 0, slots := 0, locals := 0 }) (xr D [(cI, .int), (cB, .byte), (cL, .long), (cZ, .boolean)] [(a0, .inr (12, MF ad 0 v3 0 (-1) v6 v7 v8 v9 vN 1 v36 v37 v38 v39 v40 v41 0 0 0 0 0)), ((ad 13), .inl (cI, 2, .inl fT))] [.ref a0]) (vp_Si (fun r => r = 0)) 0 0 (fun _ => False) := by
  refine Met.ofW (cc := cX12_many) (maxL := 1) (ret := (some .int)) (by decide) rfl ?_
  intro p e s m args below meth c s₁ B hml hv
  obtain ⟨rfl, hP, hK⟩ := hv
  have hx := B.exec
  have hb := B.bytes
  have hr := B.returns
  have hts := atoms_spec (ws := wsX12_many) B.pre
  have hown : s.vm.findClass RX12 = some m.cls := findClass_of_methodNamed B.named
  have hlocks := B.notSynchronized
  have hl := lv_entry ([.ref a0]) (n := 1) (Nat.le_of_ble_eq_true rfl)
  rw [lg_entry_eq]
  generalize (lg_sl ([.ref a0]) ++ List.replicate (1 - (lg_sl ([.ref a0])).length) Slot.unset).toArray = ls at hl ⊢
  replace hl : lv_has ls 1 [(0, .ref a0)] := hl
  refine lv_aload_n hx hb dX12_many_0 rfl (lv_at hl 0 rfl) ?_
  refine va_get (D := D) (ci := 12) (v := .ref (ad 13)) (C := RX12) (T := TX12) (N := 71) hx hb hts iw_X12_many_X12 hown hK hP 0 rfl rfl 13 (by decide) (hts (.fieldLink RX12 27 "SoldHouseModel" "things" "[I") (List.mem_of_getElem? (i := 1) rfl)) (fun _ h9 => h9) rfl dX12_many_1 ?_
  refine lv_aload_n hx hb dX12_many_4 rfl (lv_at hl 0 rfl) ?_
  refine va_get (D := D) (ci := 12) (v := .int 1) (C := RX12) (T := TX12) (N := 71) hx hb hts iw_X12_many_X12 hown hK hP 0 rfl rfl 35 (by decide) (hts (.fieldLink RX12 280 "SoldHouseModel" "bank" "I") (List.mem_of_getElem? (i := 2) rfl)) (fun _ h9 => h9) rfl dX12_many_5 ?_
  refine va_iald hx hb hK hP 1 0 rfl rfl (show vp_in 1 2 from (by decide : ¬ ((1 : Int32) < 0 ∨ 2 ≤ Int32.toNatClampNeg 1))) dX12_many_8 ?_
  refine lv_topi (fun y_1 ey_1 => ?_)
  obtain rfl : y_1 = 0 := ey_1.trans hf_fT_1
  exact W.iret (v := 0) hx hb hr (fun t ht hW => ⟨0, rfl, rfl, ht⟩) (fun q hq => by cases hq) dX12_many_9
set_option maxHeartbeats 4000000 in
set_option maxRecDepth 100000 in
theorem m_layTable0 (l : Launch) (D : va_G) (cI : ClassId) (cB : ClassId) (cL : ClassId) (cZ : ClassId) (a0 : Nat) (ad : Nat → Nat) (v3 : Int32) (v6 : Int32) (v7 : Int32) (v8 : Int32) (v9 : Int32) (v36 : Int32) (v37 : Int32) (v38 : Int32) (v39 : Int32) (v40 : Int32) (v41 : Int32) (vN : Int64) (fR : Nat → Int32) (fD : Nat → Int32) (hf_fR_0 : fR 0 = 0) (hf_fD_0 : fD 0 = 0) : Met l yX12_layTable wsX12_layTable ({ frames := 1, cells := 0, slots := 0, locals := 20 }) (xr D [(cI, .int), (cB, .byte), (cL, .long), (cZ, .boolean)] [(a0, .inr (12, MF ad 0 v3 0 (-1) v6 v7 v8 v9 vN 0 v36 v37 v38 v39 v40 v41 0 0 0 0 0)), ((ad 11), .inl (cI, 2, .inl fR)), ((ad 12), .inl (cI, 2, .inl fD))] [.ref a0]) (va_Sv (fun _ => True)) 0 0 (fun _ => False) := by
  refine Met.ofW (cc := cX12_layTable) (maxL := 7) (ret := none) (by decide) rfl ?_
  intro p e s m args below meth c s₁ B hml hv
  obtain ⟨rfl, hP, hK⟩ := hv
  have hx := B.exec
  have hb := B.bytes
  have hr := B.returns
  have hts := atoms_spec (ws := wsX12_layTable) B.pre
  have hown : s.vm.findClass RX12 = some m.cls := findClass_of_methodNamed B.named
  have hlocks := B.notSynchronized
  have hl := lv_entry ([.ref a0]) (n := 7) (Nat.le_of_ble_eq_true rfl)
  rw [lg_entry_eq]
  generalize (lg_sl ([.ref a0]) ++ List.replicate (7 - (lg_sl ([.ref a0])).length) Slot.unset).toArray = ls at hl ⊢
  replace hl : lv_has ls 7 [(0, .ref a0)] := hl
  refine lv_iconst (v := 0) hx hb dX12_layTable_0 (by decide) ?_
  refine lv_istore_n (lv' := [(1, .int 0), (0, .ref a0)]) hx hb dX12_layTable_1 rfl hl (by decide) rfl (fun ls hl => ?_)
  refine lv_iload_n hx hb dX12_layTable_2 rfl (lv_at hl 0 rfl) ?_
  refine lv_aload_n hx hb dX12_layTable_3 rfl (lv_at hl 1 rfl) ?_
  have hPc := hP.sub (ws' := [(a0, .inr (12, MF ad 0 v3 0 (-1) v6 v7 v8 v9 vN 0 v36 v37 v38 v39 v40 v41 0 0 0 0 0)), ((ad 11), .inl (cI, 2, .inl fR))]) [0, 1] rfl
  refine vp_callSi (va_runV (As := []) (rest := [.int 0]) ⟨hx, hb, hml, hown, hts⟩ (m_places l D cI cB cL cZ a0 ad v3 v6 v7 v8 v9 v36 v37 v38 v39 v40 v41 vN fR hf_fR_0) (cwV 0 hts gX12_layTable_X12_places rfl rfl rfl (by decide +kernel) ⟨Nat.le_of_ble_eq_true rfl, Nat.le_of_ble_eq_true rfl⟩) ⟨xr_blind, va_recv hK hPc (ci := 12) (q0 := 0) rfl rfl, fun U hU hW => xr_mk hU hW hPc hK⟩ rfl rfl hl.1 rfl (lv_room (Nat.le_of_ble_eq_true rfl)) dX12_layTable_4 ⟨Nat.le_of_ble_eq_true rfl, Nat.le_of_ble_eq_true rfl⟩).run (fun r_1 hr_1 => ?_)
  clear hPc
  subst hr_1
  refine lv_icmp_ge (tgt := 141) hx hb dX12_layTable_7 (by decide) (fun _ => ?_) (fun c_2 => absurd (by decide) c_2)
  refine lv_iconst (v := 0) hx hb dX12_layTable_141 (by decide) ?_
  refine lv_istore_n (lv' := [(1, .int 0), (0, .ref a0)]) hx hb dX12_layTable_142 rfl hl (by decide) rfl (fun ls hl => ?_)
  refine lv_iload_n hx hb dX12_layTable_143 rfl (lv_at hl 0 rfl) ?_
  refine lv_aload_n hx hb dX12_layTable_144 rfl (lv_at hl 1 rfl) ?_
  refine va_get (D := D) (ci := 12) (v := .ref (ad 12)) (C := RX12) (T := TX12) (N := 71) hx hb hts iw_X12_layTable_X12 hown hK hP 0 rfl rfl 12 (by decide) (hts (.fieldLink RX12 24 "SoldHouseModel" "doors" "[I") (List.mem_of_getElem? (i := 2) rfl)) (fun _ h9 => h9) rfl dX12_layTable_145 ?_
  refine lv_aload_n hx hb dX12_layTable_148 rfl (lv_at hl 1 rfl) ?_
  refine va_get (D := D) (ci := 12) (v := .int 0) (C := RX12) (T := TX12) (N := 71) hx hb hts iw_X12_layTable_X12 hown hK hP 0 rfl rfl 35 (by decide) (hts (.fieldLink RX12 280 "SoldHouseModel" "bank" "I") (List.mem_of_getElem? (i := 3) rfl)) (fun _ h9 => h9) rfl dX12_layTable_149 ?_
  refine va_iald hx hb hK hP 2 0 rfl rfl (show vp_in 0 2 from (by decide : ¬ ((0 : Int32) < 0 ∨ 2 ≤ Int32.toNatClampNeg 0))) dX12_layTable_152 ?_
  refine lv_topi (fun y_3 ey_3 => ?_)
  obtain rfl : y_3 = 0 := ey_3.trans hf_fD_0
  refine lv_icmp_ge (tgt := 178) hx hb dX12_layTable_153 (by decide) (fun _ => ?_) (fun c_4 => absurd (by decide) c_4)
  exact W.vret hx hb hr (fun t ht hW => ⟨rfl, trivial, ht⟩) (fun q hq => by cases hq) dX12_layTable_178
set_option maxHeartbeats 4000000 in
set_option maxRecDepth 100000 in
theorem m_startAnew0 (l : Launch) (D : va_G) (cI : ClassId) (cB : ClassId) (cL : ClassId) (cZ : ClassId) (a0 : Nat) (ad : Nat → Nat) (v3 : Int32) (v6 : Int32) (v7 : Int32) (v8 : Int32) (v9 : Int32) (v36 : Int32) (v37 : Int32) (v38 : Int32) (v39 : Int32) (v40 : Int32) (v41 : Int32) (vN : Int64) (fR : Nat → Int32) (fD : Nat → Int32) (fT : Nat → Int32) (fW : Nat → Int32) (fA : Nat → Int32) (fB : Nat → Int32) (sz : Nat) (hf_fR_0 : fR 0 = 0) (hf_fD_0 : fD 0 = 0) (hf_fT_0 : fT 0 = 0) (hf_fW_0 : fW 0 = 0) (hf_fA_30 : fA 30 = 0) (hf_fA_31 : fA 31 = 0) : Met l yX12_startAnew wsX12_startAnew ({ frames := 2, cells := 0, slots := 0, locals := 46 }) (xp D [(cI, .int), (cB, .byte), (cL, .long), (cZ, .boolean)] [(a0, .inr (12, MF ad 0 v3 0 (-1) v6 v7 v8 v9 vN 0 v36 v37 v38 v39 v40 v41 0 0 0 0 0)), ((ad 11), .inl (cI, 2, .inl fR)), ((ad 12), .inl (cI, 2, .inl fD)), ((ad 13), .inl (cI, 2, .inl fT)), ((ad 15), .inl (cI, 2, .inl fW)), ((ad 42), .inl (cI, 32, .inl fA)), ((ad 70), .inl (cZ, 3, .inl fB))] sz [] [.ref a0]) (va_Qv (fun _ : Unit => True) (fun (_ : Unit) (t : State) => ∃ (gA : Nat → Int32), ∃ (gB : Nat → Int32), gA 30 = 0 ∧ gA 31 = 0 ∧ gB 0 = 0 ∧ gB 1 = 0 ∧ gB 2 = 0 ∧ xB D (va_A [(a0, .inr (12, MF ad 0 v3 0 (-1) v6 v7 v8 v9 vN 0 v36 v37 v38 v39 v40 v41 0 0 0 0 0)), ((ad 11), .inl (cI, 2, .inl fR)), ((ad 12), .inl (cI, 2, .inl fD)), ((ad 13), .inl (cI, 2, .inl fT)), ((ad 15), .inl (cI, 2, .inl fW)), ((ad 42), .inl (cI, 32, .inl fA)), ((ad 70), .inl (cZ, 3, .inl fB))] sz) [(a0, .inr (12, MF ad 0 v3 0 (-1) v6 v7 v8 v9 vN 0 v36 v37 v38 v39 v40 v41 0 0 0 0 0)), ((ad 11), .inl (cI, 2, .inl fR)), ((ad 12), .inl (cI, 2, .inl fD)), ((ad 13), .inl (cI, 2, .inl fT)), ((ad 15), .inl (cI, 2, .inl fW)), ((ad 42), .inl (cI, 32, .inl gA)), ((ad 70), .inl (cZ, 3, .inl gB))] t) (va_A [(a0, .inr (12, MF ad 0 v3 0 (-1) v6 v7 v8 v9 vN 0 v36 v37 v38 v39 v40 v41 0 0 0 0 0)), ((ad 11), .inl (cI, 2, .inl fR)), ((ad 12), .inl (cI, 2, .inl fD)), ((ad 13), .inl (cI, 2, .inl fT)), ((ad 15), .inl (cI, 2, .inl fW)), ((ad 42), .inl (cI, 32, .inl fA)), ((ad 70), .inl (cZ, 3, .inl fB))] sz)) 0 0 (va_A [(a0, .inr (12, MF ad 0 v3 0 (-1) v6 v7 v8 v9 vN 0 v36 v37 v38 v39 v40 v41 0 0 0 0 0)), ((ad 11), .inl (cI, 2, .inl fR)), ((ad 12), .inl (cI, 2, .inl fD)), ((ad 13), .inl (cI, 2, .inl fT)), ((ad 15), .inl (cI, 2, .inl fW)), ((ad 42), .inl (cI, 32, .inl fA)), ((ad 70), .inl (cZ, 3, .inl fB))] sz) := by
  refine Met.ofW (cc := cX12_startAnew) (maxL := 2) (ret := none) (by decide) rfl ?_
  intro p e s m args below meth c s₁ B hml hv
  obtain ⟨rfl, hsz, hP, hK, hD0, hNw⟩ := hv
  have hx := B.exec
  have hb := B.bytes
  have hr := B.returns
  have hts := atoms_spec (ws := wsX12_startAnew) B.pre
  have hown : s.vm.findClass RX12 = some m.cls := findClass_of_methodNamed B.named
  have hlocks := B.notSynchronized
  subst hsz
  have hD := hD0.self (sz := s.heap.size)
  clear hD0
  generalize hAe : va_A [(a0, .inr (12, MF ad 0 v3 0 (-1) v6 v7 v8 v9 vN 0 v36 v37 v38 v39 v40 v41 0 0 0 0 0)), ((ad 11), .inl (cI, 2, .inl fR)), ((ad 12), .inl (cI, 2, .inl fD)), ((ad 13), .inl (cI, 2, .inl fT)), ((ad 15), .inl (cI, 2, .inl fW)), ((ad 42), .inl (cI, 32, .inl fA)), ((ad 70), .inl (cZ, 3, .inl fB))] s.heap.size = A at hD ⊢
  have hA : ∀ q : Nat, s.heap.size ≤ q → A q := fun q h => by rw [← hAe]; exact Or.inr h
  have hS : va_S A s.heap s.heap [] := va_S.rf
  clear hAe
  obtain ⟨H, hH⟩ : ∃ H : Heap, H = s.heap := ⟨_, rfl⟩
  obtain ⟨locs, hlocs⟩ : ∃ L : List Loc, L = [] := ⟨_, rfl⟩
  replace hP : va_P D classes [(a0, .inr (12, MF ad 0 v3 0 (-1) v6 v7 v8 v9 vN 0 v36 v37 v38 v39 v40 v41 0 0 0 0 0)), ((ad 11), .inl (cI, 2, .inl fR)), ((ad 12), .inl (cI, 2, .inl fD)), ((ad 13), .inl (cI, 2, .inl fT)), ((ad 15), .inl (cI, 2, .inl fW)), ((ad 42), .inl (cI, 32, .inl fA)), ((ad 70), .inl (cZ, 3, .inl fB))] H := by rw [hH]; exact hP
  replace hS : va_S A s.heap H locs := by rw [hH, hlocs]; exact hS
  rw [← hH, ← hlocs]
  clear hlocs hH
  have hl := lv_entry ([.ref a0]) (n := 2) (Nat.le_of_ble_eq_true rfl)
  rw [lg_entry_eq]
  generalize (lg_sl ([.ref a0]) ++ List.replicate (2 - (lg_sl ([.ref a0])).length) Slot.unset).toArray = ls at hl ⊢
  replace hl : lv_has ls 2 [(0, .ref a0)] := hl
  refine lv_iconst (v := 0) hx hb dX12_startAnew_0 (by decide) ?_
  refine lv_istore_n (lv' := [(1, .int 0), (0, .ref a0)]) hx hb dX12_startAnew_1 rfl hl (by decide) rfl (fun ls hl => ?_)
  obtain ⟨i2, hi2⟩ : ∃ i : Nat, i = 0 := ⟨0, rfl⟩
  replace hl : lv_has ls 2 [(1, .int (nI i2)), (0, .ref a0)] := by
    rw [hi2]; exact hl
  obtain ⟨g_1, eg_1⟩ : ∃ g : Nat → Int32, g = fA := ⟨_, rfl⟩
  have g_1_30 : g_1 30 = 0 := by rw [eg_1]; exact hf_fA_30
  have g_1_31 : g_1 31 = 0 := by rw [eg_1]; exact hf_fA_31
  rw [← eg_1] at hP hD
  clear eg_1
  have hle_i2 : i2 ≤ 32 := by omega
  obtain ⟨n2, hnn2⟩ : ∃ n : Nat, 32 + 1 ≤ i2 + n := ⟨32 + 1, by omega⟩
  clear hi2
  induction n2 generalizing i2 H locs ls g_1 with
  | zero => omega
  | succ n2 ih2 =>
    refine lv_iload_n hx hb dX12_startAnew_2 rfl (lv_at hl 0 rfl) ?_
    refine lv_bipush (v := 32) hx hb dX12_startAnew_3 (by decide) ?_
    refine lv_icmp_ge (tgt := 21) hx hb dX12_startAnew_5 (by decide) (fun c_2 => ?_) (fun c_2 => ?_)
    · refine lv_iconst (v := 0) hx hb dX12_startAnew_21 (by decide) ?_
      refine lv_istore_n (lv' := [(1, .int 0), (0, .ref a0)]) hx hb dX12_startAnew_22 rfl hl (by decide) rfl (fun ls hl => ?_)
      refine lv_iload_n hx hb dX12_startAnew_23 rfl (lv_at hl 0 rfl) ?_
      refine lv_aload_n hx hb dX12_startAnew_24 rfl (lv_at hl 1 rfl) ?_
      have hPc := hP.sub (ws' := [(a0, .inr (12, MF ad 0 v3 0 (-1) v6 v7 v8 v9 vN 0 v36 v37 v38 v39 v40 v41 0 0 0 0 0)), ((ad 13), .inl (cI, 2, .inl fT))]) [0, 3] rfl
      refine vp_callSi (va_runV (As := []) (rest := [.int 0]) ⟨hx, hb, hml, hown, hts⟩ (m_many l D cI cB cL cZ a0 ad v3 v6 v7 v8 v9 v36 v37 v38 v39 v40 v41 vN fT hf_fT_0) (cwV 0 hts gX12_startAnew_X12_many rfl rfl rfl (by decide +kernel) ⟨Nat.le_of_ble_eq_true rfl, Nat.le_of_ble_eq_true rfl⟩) ⟨xr_blind, va_recv hK hPc (ci := 12) (q0 := 0) rfl rfl, fun U hU hW => xr_mk hU hW hPc hK⟩ rfl rfl hl.1 rfl (lv_room (Nat.le_of_ble_eq_true rfl)) dX12_startAnew_25 ⟨Nat.le_of_ble_eq_true rfl, Nat.le_of_ble_eq_true rfl⟩).run (fun r_3 hr_3 => ?_)
      clear hPc
      subst hr_3
      refine lv_icmp_ge (tgt := 105) hx hb dX12_startAnew_28 (by decide) (fun _ => ?_) (fun c_4 => absurd (by decide) c_4)
      refine lv_iconst (v := 0) hx hb dX12_startAnew_105 (by decide) ?_
      refine lv_istore_n (lv' := [(1, .int 0), (0, .ref a0)]) hx hb dX12_startAnew_106 rfl hl (by decide) rfl (fun ls hl => ?_)
      refine lv_iload_n hx hb dX12_startAnew_107 rfl (lv_at hl 0 rfl) ?_
      refine lv_bipush (v := 6) hx hb dX12_startAnew_108 (by decide) ?_
      refine lv_icmp_ge (tgt := 129) hx hb dX12_startAnew_110 (by decide) (fun c_5 => absurd c_5 (by decide)) (fun _ => ?_)
      refine lv_aload_n hx hb dX12_startAnew_113 rfl (lv_at hl 1 rfl) ?_
      refine va_get (D := D) (ci := 12) (v := .ref (ad 42)) (C := RX12) (T := TX12) (N := 71) hx hb hts iw_X12_startAnew_X12 hown hK hP 0 rfl rfl 42 (by decide) (hts (.fieldLink RX12 95 "SoldHouseModel" "all" "[I") (List.mem_of_getElem? (i := 1) rfl)) (fun _ h9 => h9) rfl dX12_startAnew_114 ?_
      refine lv_bipush (v := 24) hx hb dX12_startAnew_117 (by decide) ?_
      refine lv_iload_n hx hb dX12_startAnew_119 rfl (lv_at hl 0 rfl) ?_
      refine lv_iadd hx hb dX12_startAnew_120 ?_
      refine lv_topi (fun y_6 ey_6 => ?_)
      obtain rfl : y_6 = 24 := ey_6.trans (by decide)
      refine lv_iconst (v := (-1)) hx hb dX12_startAnew_121 (by decide) ?_
      refine va_iast hx hb hK hP hD hS 5 0 rfl rfl (show vp_in 24 32 from (by decide : ¬ ((24 : Int32) < 0 ∨ 32 ≤ Int32.toNatClampNeg 24))) dX12_startAnew_122 (fun H locs hP hD hS => ?_)
      replace hP : va_P D classes [(a0, .inr (12, MF ad 0 v3 0 (-1) v6 v7 v8 v9 vN 0 v36 v37 v38 v39 v40 v41 0 0 0 0 0)), ((ad 11), .inl (cI, 2, .inl fR)), ((ad 12), .inl (cI, 2, .inl fD)), ((ad 13), .inl (cI, 2, .inl fT)), ((ad 15), .inl (cI, 2, .inl fW)), ((ad 42), .inl (cI, 32, .inl (upd g_1 (Int32.toNatClampNeg 24) (-1)))), ((ad 70), .inl (cZ, 3, .inl fB))] H := hP
      replace hD : va_D A [(a0, .inr (12, MF ad 0 v3 0 (-1) v6 v7 v8 v9 vN 0 v36 v37 v38 v39 v40 v41 0 0 0 0 0)), ((ad 11), .inl (cI, 2, .inl fR)), ((ad 12), .inl (cI, 2, .inl fD)), ((ad 13), .inl (cI, 2, .inl fT)), ((ad 15), .inl (cI, 2, .inl fW)), ((ad 42), .inl (cI, 32, .inl (upd g_1 (Int32.toNatClampNeg 24) (-1)))), ((ad 70), .inl (cZ, 3, .inl fB))] := hD
      generalize eg_7 : upd g_1 (Int32.toNatClampNeg 24) (-1) = g_7 at hP hD
      have g_7_30 : g_7 30 = 0 := by rw [← eg_7]; exact (pk_un (by decide)).trans g_1_30
      have g_7_31 : g_7 31 = 0 := by rw [← eg_7]; exact (pk_un (by decide)).trans g_1_31
      clear eg_7
      refine lv_iinc (v := 1) (lv' := [(1, .int 1), (0, .ref a0)]) hx hb dX12_startAnew_123 hl (k := 0) rfl (by decide) (by decide) rfl (fun ls hl => ?_)
      refine lv_goto (tgt := 107) hx hb dX12_startAnew_126 (by decide) ?_
      refine lv_iload_n hx hb dX12_startAnew_107 rfl (lv_at hl 0 rfl) ?_
      refine lv_bipush (v := 6) hx hb dX12_startAnew_108 (by decide) ?_
      refine lv_icmp_ge (tgt := 129) hx hb dX12_startAnew_110 (by decide) (fun c_8 => absurd c_8 (by decide)) (fun _ => ?_)
      refine lv_aload_n hx hb dX12_startAnew_113 rfl (lv_at hl 1 rfl) ?_
      refine va_get (D := D) (ci := 12) (v := .ref (ad 42)) (C := RX12) (T := TX12) (N := 71) hx hb hts iw_X12_startAnew_X12 hown hK hP 0 rfl rfl 42 (by decide) (hts (.fieldLink RX12 95 "SoldHouseModel" "all" "[I") (List.mem_of_getElem? (i := 1) rfl)) (fun _ h9 => h9) rfl dX12_startAnew_114 ?_
      refine lv_bipush (v := 24) hx hb dX12_startAnew_117 (by decide) ?_
      refine lv_iload_n hx hb dX12_startAnew_119 rfl (lv_at hl 0 rfl) ?_
      refine lv_iadd hx hb dX12_startAnew_120 ?_
      refine lv_topi (fun y_9 ey_9 => ?_)
      obtain rfl : y_9 = 25 := ey_9.trans (by decide)
      refine lv_iconst (v := (-1)) hx hb dX12_startAnew_121 (by decide) ?_
      refine va_iast hx hb hK hP hD hS 5 0 rfl rfl (show vp_in 25 32 from (by decide : ¬ ((25 : Int32) < 0 ∨ 32 ≤ Int32.toNatClampNeg 25))) dX12_startAnew_122 (fun H locs hP hD hS => ?_)
      replace hP : va_P D classes [(a0, .inr (12, MF ad 0 v3 0 (-1) v6 v7 v8 v9 vN 0 v36 v37 v38 v39 v40 v41 0 0 0 0 0)), ((ad 11), .inl (cI, 2, .inl fR)), ((ad 12), .inl (cI, 2, .inl fD)), ((ad 13), .inl (cI, 2, .inl fT)), ((ad 15), .inl (cI, 2, .inl fW)), ((ad 42), .inl (cI, 32, .inl (upd g_7 (Int32.toNatClampNeg 25) (-1)))), ((ad 70), .inl (cZ, 3, .inl fB))] H := hP
      replace hD : va_D A [(a0, .inr (12, MF ad 0 v3 0 (-1) v6 v7 v8 v9 vN 0 v36 v37 v38 v39 v40 v41 0 0 0 0 0)), ((ad 11), .inl (cI, 2, .inl fR)), ((ad 12), .inl (cI, 2, .inl fD)), ((ad 13), .inl (cI, 2, .inl fT)), ((ad 15), .inl (cI, 2, .inl fW)), ((ad 42), .inl (cI, 32, .inl (upd g_7 (Int32.toNatClampNeg 25) (-1)))), ((ad 70), .inl (cZ, 3, .inl fB))] := hD
      generalize eg_10 : upd g_7 (Int32.toNatClampNeg 25) (-1) = g_10 at hP hD
      have g_10_30 : g_10 30 = 0 := by rw [← eg_10]; exact (pk_un (by decide)).trans g_7_30
      have g_10_31 : g_10 31 = 0 := by rw [← eg_10]; exact (pk_un (by decide)).trans g_7_31
      clear eg_10
      refine lv_iinc (v := 2) (lv' := [(1, .int 2), (0, .ref a0)]) hx hb dX12_startAnew_123 hl (k := 0) rfl (by decide) (by decide) rfl (fun ls hl => ?_)
      refine lv_goto (tgt := 107) hx hb dX12_startAnew_126 (by decide) ?_
      refine lv_iload_n hx hb dX12_startAnew_107 rfl (lv_at hl 0 rfl) ?_
      refine lv_bipush (v := 6) hx hb dX12_startAnew_108 (by decide) ?_
      refine lv_icmp_ge (tgt := 129) hx hb dX12_startAnew_110 (by decide) (fun c_11 => absurd c_11 (by decide)) (fun _ => ?_)
      refine lv_aload_n hx hb dX12_startAnew_113 rfl (lv_at hl 1 rfl) ?_
      refine va_get (D := D) (ci := 12) (v := .ref (ad 42)) (C := RX12) (T := TX12) (N := 71) hx hb hts iw_X12_startAnew_X12 hown hK hP 0 rfl rfl 42 (by decide) (hts (.fieldLink RX12 95 "SoldHouseModel" "all" "[I") (List.mem_of_getElem? (i := 1) rfl)) (fun _ h9 => h9) rfl dX12_startAnew_114 ?_
      refine lv_bipush (v := 24) hx hb dX12_startAnew_117 (by decide) ?_
      refine lv_iload_n hx hb dX12_startAnew_119 rfl (lv_at hl 0 rfl) ?_
      refine lv_iadd hx hb dX12_startAnew_120 ?_
      refine lv_topi (fun y_12 ey_12 => ?_)
      obtain rfl : y_12 = 26 := ey_12.trans (by decide)
      refine lv_iconst (v := (-1)) hx hb dX12_startAnew_121 (by decide) ?_
      refine va_iast hx hb hK hP hD hS 5 0 rfl rfl (show vp_in 26 32 from (by decide : ¬ ((26 : Int32) < 0 ∨ 32 ≤ Int32.toNatClampNeg 26))) dX12_startAnew_122 (fun H locs hP hD hS => ?_)
      replace hP : va_P D classes [(a0, .inr (12, MF ad 0 v3 0 (-1) v6 v7 v8 v9 vN 0 v36 v37 v38 v39 v40 v41 0 0 0 0 0)), ((ad 11), .inl (cI, 2, .inl fR)), ((ad 12), .inl (cI, 2, .inl fD)), ((ad 13), .inl (cI, 2, .inl fT)), ((ad 15), .inl (cI, 2, .inl fW)), ((ad 42), .inl (cI, 32, .inl (upd g_10 (Int32.toNatClampNeg 26) (-1)))), ((ad 70), .inl (cZ, 3, .inl fB))] H := hP
      replace hD : va_D A [(a0, .inr (12, MF ad 0 v3 0 (-1) v6 v7 v8 v9 vN 0 v36 v37 v38 v39 v40 v41 0 0 0 0 0)), ((ad 11), .inl (cI, 2, .inl fR)), ((ad 12), .inl (cI, 2, .inl fD)), ((ad 13), .inl (cI, 2, .inl fT)), ((ad 15), .inl (cI, 2, .inl fW)), ((ad 42), .inl (cI, 32, .inl (upd g_10 (Int32.toNatClampNeg 26) (-1)))), ((ad 70), .inl (cZ, 3, .inl fB))] := hD
      generalize eg_13 : upd g_10 (Int32.toNatClampNeg 26) (-1) = g_13 at hP hD
      have g_13_30 : g_13 30 = 0 := by rw [← eg_13]; exact (pk_un (by decide)).trans g_10_30
      have g_13_31 : g_13 31 = 0 := by rw [← eg_13]; exact (pk_un (by decide)).trans g_10_31
      clear eg_13
      refine lv_iinc (v := 3) (lv' := [(1, .int 3), (0, .ref a0)]) hx hb dX12_startAnew_123 hl (k := 0) rfl (by decide) (by decide) rfl (fun ls hl => ?_)
      refine lv_goto (tgt := 107) hx hb dX12_startAnew_126 (by decide) ?_
      refine lv_iload_n hx hb dX12_startAnew_107 rfl (lv_at hl 0 rfl) ?_
      refine lv_bipush (v := 6) hx hb dX12_startAnew_108 (by decide) ?_
      refine lv_icmp_ge (tgt := 129) hx hb dX12_startAnew_110 (by decide) (fun c_14 => absurd c_14 (by decide)) (fun _ => ?_)
      refine lv_aload_n hx hb dX12_startAnew_113 rfl (lv_at hl 1 rfl) ?_
      refine va_get (D := D) (ci := 12) (v := .ref (ad 42)) (C := RX12) (T := TX12) (N := 71) hx hb hts iw_X12_startAnew_X12 hown hK hP 0 rfl rfl 42 (by decide) (hts (.fieldLink RX12 95 "SoldHouseModel" "all" "[I") (List.mem_of_getElem? (i := 1) rfl)) (fun _ h9 => h9) rfl dX12_startAnew_114 ?_
      refine lv_bipush (v := 24) hx hb dX12_startAnew_117 (by decide) ?_
      refine lv_iload_n hx hb dX12_startAnew_119 rfl (lv_at hl 0 rfl) ?_
      refine lv_iadd hx hb dX12_startAnew_120 ?_
      refine lv_topi (fun y_15 ey_15 => ?_)
      obtain rfl : y_15 = 27 := ey_15.trans (by decide)
      refine lv_iconst (v := (-1)) hx hb dX12_startAnew_121 (by decide) ?_
      refine va_iast hx hb hK hP hD hS 5 0 rfl rfl (show vp_in 27 32 from (by decide : ¬ ((27 : Int32) < 0 ∨ 32 ≤ Int32.toNatClampNeg 27))) dX12_startAnew_122 (fun H locs hP hD hS => ?_)
      replace hP : va_P D classes [(a0, .inr (12, MF ad 0 v3 0 (-1) v6 v7 v8 v9 vN 0 v36 v37 v38 v39 v40 v41 0 0 0 0 0)), ((ad 11), .inl (cI, 2, .inl fR)), ((ad 12), .inl (cI, 2, .inl fD)), ((ad 13), .inl (cI, 2, .inl fT)), ((ad 15), .inl (cI, 2, .inl fW)), ((ad 42), .inl (cI, 32, .inl (upd g_13 (Int32.toNatClampNeg 27) (-1)))), ((ad 70), .inl (cZ, 3, .inl fB))] H := hP
      replace hD : va_D A [(a0, .inr (12, MF ad 0 v3 0 (-1) v6 v7 v8 v9 vN 0 v36 v37 v38 v39 v40 v41 0 0 0 0 0)), ((ad 11), .inl (cI, 2, .inl fR)), ((ad 12), .inl (cI, 2, .inl fD)), ((ad 13), .inl (cI, 2, .inl fT)), ((ad 15), .inl (cI, 2, .inl fW)), ((ad 42), .inl (cI, 32, .inl (upd g_13 (Int32.toNatClampNeg 27) (-1)))), ((ad 70), .inl (cZ, 3, .inl fB))] := hD
      generalize eg_16 : upd g_13 (Int32.toNatClampNeg 27) (-1) = g_16 at hP hD
      have g_16_30 : g_16 30 = 0 := by rw [← eg_16]; exact (pk_un (by decide)).trans g_13_30
      have g_16_31 : g_16 31 = 0 := by rw [← eg_16]; exact (pk_un (by decide)).trans g_13_31
      clear eg_16
      refine lv_iinc (v := 4) (lv' := [(1, .int 4), (0, .ref a0)]) hx hb dX12_startAnew_123 hl (k := 0) rfl (by decide) (by decide) rfl (fun ls hl => ?_)
      refine lv_goto (tgt := 107) hx hb dX12_startAnew_126 (by decide) ?_
      refine lv_iload_n hx hb dX12_startAnew_107 rfl (lv_at hl 0 rfl) ?_
      refine lv_bipush (v := 6) hx hb dX12_startAnew_108 (by decide) ?_
      refine lv_icmp_ge (tgt := 129) hx hb dX12_startAnew_110 (by decide) (fun c_17 => absurd c_17 (by decide)) (fun _ => ?_)
      refine lv_aload_n hx hb dX12_startAnew_113 rfl (lv_at hl 1 rfl) ?_
      refine va_get (D := D) (ci := 12) (v := .ref (ad 42)) (C := RX12) (T := TX12) (N := 71) hx hb hts iw_X12_startAnew_X12 hown hK hP 0 rfl rfl 42 (by decide) (hts (.fieldLink RX12 95 "SoldHouseModel" "all" "[I") (List.mem_of_getElem? (i := 1) rfl)) (fun _ h9 => h9) rfl dX12_startAnew_114 ?_
      refine lv_bipush (v := 24) hx hb dX12_startAnew_117 (by decide) ?_
      refine lv_iload_n hx hb dX12_startAnew_119 rfl (lv_at hl 0 rfl) ?_
      refine lv_iadd hx hb dX12_startAnew_120 ?_
      refine lv_topi (fun y_18 ey_18 => ?_)
      obtain rfl : y_18 = 28 := ey_18.trans (by decide)
      refine lv_iconst (v := (-1)) hx hb dX12_startAnew_121 (by decide) ?_
      refine va_iast hx hb hK hP hD hS 5 0 rfl rfl (show vp_in 28 32 from (by decide : ¬ ((28 : Int32) < 0 ∨ 32 ≤ Int32.toNatClampNeg 28))) dX12_startAnew_122 (fun H locs hP hD hS => ?_)
      replace hP : va_P D classes [(a0, .inr (12, MF ad 0 v3 0 (-1) v6 v7 v8 v9 vN 0 v36 v37 v38 v39 v40 v41 0 0 0 0 0)), ((ad 11), .inl (cI, 2, .inl fR)), ((ad 12), .inl (cI, 2, .inl fD)), ((ad 13), .inl (cI, 2, .inl fT)), ((ad 15), .inl (cI, 2, .inl fW)), ((ad 42), .inl (cI, 32, .inl (upd g_16 (Int32.toNatClampNeg 28) (-1)))), ((ad 70), .inl (cZ, 3, .inl fB))] H := hP
      replace hD : va_D A [(a0, .inr (12, MF ad 0 v3 0 (-1) v6 v7 v8 v9 vN 0 v36 v37 v38 v39 v40 v41 0 0 0 0 0)), ((ad 11), .inl (cI, 2, .inl fR)), ((ad 12), .inl (cI, 2, .inl fD)), ((ad 13), .inl (cI, 2, .inl fT)), ((ad 15), .inl (cI, 2, .inl fW)), ((ad 42), .inl (cI, 32, .inl (upd g_16 (Int32.toNatClampNeg 28) (-1)))), ((ad 70), .inl (cZ, 3, .inl fB))] := hD
      generalize eg_19 : upd g_16 (Int32.toNatClampNeg 28) (-1) = g_19 at hP hD
      have g_19_30 : g_19 30 = 0 := by rw [← eg_19]; exact (pk_un (by decide)).trans g_16_30
      have g_19_31 : g_19 31 = 0 := by rw [← eg_19]; exact (pk_un (by decide)).trans g_16_31
      clear eg_19
      refine lv_iinc (v := 5) (lv' := [(1, .int 5), (0, .ref a0)]) hx hb dX12_startAnew_123 hl (k := 0) rfl (by decide) (by decide) rfl (fun ls hl => ?_)
      refine lv_goto (tgt := 107) hx hb dX12_startAnew_126 (by decide) ?_
      refine lv_iload_n hx hb dX12_startAnew_107 rfl (lv_at hl 0 rfl) ?_
      refine lv_bipush (v := 6) hx hb dX12_startAnew_108 (by decide) ?_
      refine lv_icmp_ge (tgt := 129) hx hb dX12_startAnew_110 (by decide) (fun c_20 => absurd c_20 (by decide)) (fun _ => ?_)
      refine lv_aload_n hx hb dX12_startAnew_113 rfl (lv_at hl 1 rfl) ?_
      refine va_get (D := D) (ci := 12) (v := .ref (ad 42)) (C := RX12) (T := TX12) (N := 71) hx hb hts iw_X12_startAnew_X12 hown hK hP 0 rfl rfl 42 (by decide) (hts (.fieldLink RX12 95 "SoldHouseModel" "all" "[I") (List.mem_of_getElem? (i := 1) rfl)) (fun _ h9 => h9) rfl dX12_startAnew_114 ?_
      refine lv_bipush (v := 24) hx hb dX12_startAnew_117 (by decide) ?_
      refine lv_iload_n hx hb dX12_startAnew_119 rfl (lv_at hl 0 rfl) ?_
      refine lv_iadd hx hb dX12_startAnew_120 ?_
      refine lv_topi (fun y_21 ey_21 => ?_)
      obtain rfl : y_21 = 29 := ey_21.trans (by decide)
      refine lv_iconst (v := (-1)) hx hb dX12_startAnew_121 (by decide) ?_
      refine va_iast hx hb hK hP hD hS 5 0 rfl rfl (show vp_in 29 32 from (by decide : ¬ ((29 : Int32) < 0 ∨ 32 ≤ Int32.toNatClampNeg 29))) dX12_startAnew_122 (fun H locs hP hD hS => ?_)
      replace hP : va_P D classes [(a0, .inr (12, MF ad 0 v3 0 (-1) v6 v7 v8 v9 vN 0 v36 v37 v38 v39 v40 v41 0 0 0 0 0)), ((ad 11), .inl (cI, 2, .inl fR)), ((ad 12), .inl (cI, 2, .inl fD)), ((ad 13), .inl (cI, 2, .inl fT)), ((ad 15), .inl (cI, 2, .inl fW)), ((ad 42), .inl (cI, 32, .inl (upd g_19 (Int32.toNatClampNeg 29) (-1)))), ((ad 70), .inl (cZ, 3, .inl fB))] H := hP
      replace hD : va_D A [(a0, .inr (12, MF ad 0 v3 0 (-1) v6 v7 v8 v9 vN 0 v36 v37 v38 v39 v40 v41 0 0 0 0 0)), ((ad 11), .inl (cI, 2, .inl fR)), ((ad 12), .inl (cI, 2, .inl fD)), ((ad 13), .inl (cI, 2, .inl fT)), ((ad 15), .inl (cI, 2, .inl fW)), ((ad 42), .inl (cI, 32, .inl (upd g_19 (Int32.toNatClampNeg 29) (-1)))), ((ad 70), .inl (cZ, 3, .inl fB))] := hD
      generalize eg_22 : upd g_19 (Int32.toNatClampNeg 29) (-1) = g_22 at hP hD
      have g_22_30 : g_22 30 = 0 := by rw [← eg_22]; exact (pk_un (by decide)).trans g_19_30
      have g_22_31 : g_22 31 = 0 := by rw [← eg_22]; exact (pk_un (by decide)).trans g_19_31
      clear eg_22
      refine lv_iinc (v := 6) (lv' := [(1, .int 6), (0, .ref a0)]) hx hb dX12_startAnew_123 hl (k := 0) rfl (by decide) (by decide) rfl (fun ls hl => ?_)
      refine lv_goto (tgt := 107) hx hb dX12_startAnew_126 (by decide) ?_
      refine lv_iload_n hx hb dX12_startAnew_107 rfl (lv_at hl 0 rfl) ?_
      refine lv_bipush (v := 6) hx hb dX12_startAnew_108 (by decide) ?_
      refine lv_icmp_ge (tgt := 129) hx hb dX12_startAnew_110 (by decide) (fun _ => ?_) (fun c_23 => absurd (by decide) c_23)
      refine lv_aload_n hx hb dX12_startAnew_129 rfl (lv_at hl 1 rfl) ?_
      refine va_get (D := D) (ci := 12) (v := .ref (ad 42)) (C := RX12) (T := TX12) (N := 71) hx hb hts iw_X12_startAnew_X12 hown hK hP 0 rfl rfl 42 (by decide) (hts (.fieldLink RX12 95 "SoldHouseModel" "all" "[I") (List.mem_of_getElem? (i := 1) rfl)) (fun _ h9 => h9) rfl dX12_startAnew_130 ?_
      refine lv_bipush (v := 31) hx hb dX12_startAnew_133 (by decide) ?_
      refine lv_aload_n hx hb dX12_startAnew_135 rfl (lv_at hl 1 rfl) ?_
      refine va_get (D := D) (ci := 12) (v := .ref (ad 15)) (C := RX12) (T := TX12) (N := 71) hx hb hts iw_X12_startAnew_X12 hown hK hP 0 rfl rfl 15 (by decide) (hts (.fieldLink RX12 33 "SoldHouseModel" "draw" "[I") (List.mem_of_getElem? (i := 6) rfl)) (fun _ h9 => h9) rfl dX12_startAnew_136 ?_
      refine lv_aload_n hx hb dX12_startAnew_139 rfl (lv_at hl 1 rfl) ?_
      refine va_get (D := D) (ci := 12) (v := .int 0) (C := RX12) (T := TX12) (N := 71) hx hb hts iw_X12_startAnew_X12 hown hK hP 0 rfl rfl 35 (by decide) (hts (.fieldLink RX12 280 "SoldHouseModel" "bank" "I") (List.mem_of_getElem? (i := 3) rfl)) (fun _ h9 => h9) rfl dX12_startAnew_140 ?_
      refine va_iald hx hb hK hP 4 0 rfl rfl (show vp_in 0 2 from (by decide : ¬ ((0 : Int32) < 0 ∨ 2 ≤ Int32.toNatClampNeg 0))) dX12_startAnew_143 ?_
      refine lv_topi (fun y_24 ey_24 => ?_)
      obtain rfl : y_24 = 0 := ey_24.trans hf_fW_0
      refine va_iast hx hb hK hP hD hS 5 0 rfl rfl (show vp_in 31 32 from (by decide : ¬ ((31 : Int32) < 0 ∨ 32 ≤ Int32.toNatClampNeg 31))) dX12_startAnew_144 (fun H locs hP hD hS => ?_)
      replace hP : va_P D classes [(a0, .inr (12, MF ad 0 v3 0 (-1) v6 v7 v8 v9 vN 0 v36 v37 v38 v39 v40 v41 0 0 0 0 0)), ((ad 11), .inl (cI, 2, .inl fR)), ((ad 12), .inl (cI, 2, .inl fD)), ((ad 13), .inl (cI, 2, .inl fT)), ((ad 15), .inl (cI, 2, .inl fW)), ((ad 42), .inl (cI, 32, .inl (upd g_22 (Int32.toNatClampNeg 31) 0))), ((ad 70), .inl (cZ, 3, .inl fB))] H := hP
      replace hD : va_D A [(a0, .inr (12, MF ad 0 v3 0 (-1) v6 v7 v8 v9 vN 0 v36 v37 v38 v39 v40 v41 0 0 0 0 0)), ((ad 11), .inl (cI, 2, .inl fR)), ((ad 12), .inl (cI, 2, .inl fD)), ((ad 13), .inl (cI, 2, .inl fT)), ((ad 15), .inl (cI, 2, .inl fW)), ((ad 42), .inl (cI, 32, .inl (upd g_22 (Int32.toNatClampNeg 31) 0))), ((ad 70), .inl (cZ, 3, .inl fB))] := hD
      generalize eg_25 : upd g_22 (Int32.toNatClampNeg 31) 0 = g_25 at hP hD
      have g_25_30 : g_25 30 = 0 := by rw [← eg_25]; exact (pk_un (by decide)).trans g_22_30
      have g_25_31 : g_25 31 = 0 := by rw [← eg_25]; exact pk_us
      clear eg_25
      refine lv_aload_n hx hb dX12_startAnew_145 rfl (lv_at hl 1 rfl) ?_
      have hPc := hP.sub (ws' := [(a0, .inr (12, MF ad 0 v3 0 (-1) v6 v7 v8 v9 vN 0 v36 v37 v38 v39 v40 v41 0 0 0 0 0)), ((ad 11), .inl (cI, 2, .inl fR)), ((ad 12), .inl (cI, 2, .inl fD))]) [0, 1, 2] rfl
      refine va_csv (va_runV (As := []) (rest := []) ⟨hx, hb, hml, hown, hts⟩ (m_layTable0 l D cI cB cL cZ a0 ad v3 v6 v7 v8 v9 v36 v37 v38 v39 v40 v41 vN fR fD hf_fR_0 hf_fD_0) (cwV 0 hts gX12_startAnew_X12_layTable rfl rfl rfl (by decide +kernel) ⟨Nat.le_of_ble_eq_true rfl, Nat.le_of_ble_eq_true rfl⟩) ⟨xr_blind, va_recv hK hPc (ci := 12) (q0 := 0) rfl rfl, fun U hU hW => xr_mk hU hW hPc hK⟩ rfl rfl hl.1 rfl (lv_room (Nat.le_of_ble_eq_true rfl)) dX12_startAnew_146 ⟨Nat.le_of_ble_eq_true rfl, Nat.le_of_ble_eq_true rfl⟩).run (fun _ => ?_)
      clear hPc
      refine lv_aload_n hx hb dX12_startAnew_149 rfl (lv_at hl 1 rfl) ?_
      refine lv_iconst (v := 0) hx hb dX12_startAnew_150 (by decide) ?_
      refine va_put (D := D) (ci := 12) (v := .int 0) (ty := tyX12 46) (C := RX12) (T := TX12) (N := 71) hx hb hts iw_X12_startAnew_X12 tyX12 tyX12_ok nmX12 hown hK hP hD hS 0 rfl rfl 46 (by decide) (hts (.fieldLink RX12 409 "SoldHouseModel" "acts" "I") (List.mem_of_getElem? (i := 7) rfl)) (fun _ h9 => h9) rfl (by decide +kernel) rfl rfl (Nat.le_of_ble_eq_true rfl) dX12_startAnew_151 (fun H locs hP hD hS => ?_)
      replace hP : va_P D classes [(a0, .inr (12, MF ad 0 v3 0 (-1) v6 v7 v8 v9 vN 0 v36 v37 v38 v39 v40 v41 0 0 0 0 0)), ((ad 11), .inl (cI, 2, .inl fR)), ((ad 12), .inl (cI, 2, .inl fD)), ((ad 13), .inl (cI, 2, .inl fT)), ((ad 15), .inl (cI, 2, .inl fW)), ((ad 42), .inl (cI, 32, .inl g_25)), ((ad 70), .inl (cZ, 3, .inl fB))] H := hP
      replace hD : va_D A [(a0, .inr (12, MF ad 0 v3 0 (-1) v6 v7 v8 v9 vN 0 v36 v37 v38 v39 v40 v41 0 0 0 0 0)), ((ad 11), .inl (cI, 2, .inl fR)), ((ad 12), .inl (cI, 2, .inl fD)), ((ad 13), .inl (cI, 2, .inl fT)), ((ad 15), .inl (cI, 2, .inl fW)), ((ad 42), .inl (cI, 32, .inl g_25)), ((ad 70), .inl (cZ, 3, .inl fB))] := hD
      refine lv_aload_n hx hb dX12_startAnew_154 rfl (lv_at hl 1 rfl) ?_
      refine lv_iconst (v := 0) hx hb dX12_startAnew_155 (by decide) ?_
      refine va_put (D := D) (ci := 12) (v := .int 0) (ty := tyX12 47) (C := RX12) (T := TX12) (N := 71) hx hb hts iw_X12_startAnew_X12 tyX12 tyX12_ok nmX12 hown hK hP hD hS 0 rfl rfl 47 (by decide) (hts (.fieldLink RX12 412 "SoldHouseModel" "undone" "I") (List.mem_of_getElem? (i := 8) rfl)) (fun _ h9 => h9) rfl (by decide +kernel) rfl rfl (Nat.le_of_ble_eq_true rfl) dX12_startAnew_156 (fun H locs hP hD hS => ?_)
      replace hP : va_P D classes [(a0, .inr (12, MF ad 0 v3 0 (-1) v6 v7 v8 v9 vN 0 v36 v37 v38 v39 v40 v41 0 0 0 0 0)), ((ad 11), .inl (cI, 2, .inl fR)), ((ad 12), .inl (cI, 2, .inl fD)), ((ad 13), .inl (cI, 2, .inl fT)), ((ad 15), .inl (cI, 2, .inl fW)), ((ad 42), .inl (cI, 32, .inl g_25)), ((ad 70), .inl (cZ, 3, .inl fB))] H := hP
      replace hD : va_D A [(a0, .inr (12, MF ad 0 v3 0 (-1) v6 v7 v8 v9 vN 0 v36 v37 v38 v39 v40 v41 0 0 0 0 0)), ((ad 11), .inl (cI, 2, .inl fR)), ((ad 12), .inl (cI, 2, .inl fD)), ((ad 13), .inl (cI, 2, .inl fT)), ((ad 15), .inl (cI, 2, .inl fW)), ((ad 42), .inl (cI, 32, .inl g_25)), ((ad 70), .inl (cZ, 3, .inl fB))] := hD
      refine lv_aload_n hx hb dX12_startAnew_159 rfl (lv_at hl 1 rfl) ?_
      refine lv_iconst (v := 0) hx hb dX12_startAnew_160 (by decide) ?_
      refine va_put (D := D) (ci := 12) (v := .int 0) (ty := tyX12 67) (C := RX12) (T := TX12) (N := 71) hx hb hts iw_X12_startAnew_X12 tyX12 tyX12_ok nmX12 hown hK hP hD hS 0 rfl rfl 67 (by decide) (hts (.fieldLink RX12 415 "SoldHouseModel" "heards" "I") (List.mem_of_getElem? (i := 9) rfl)) (fun _ h9 => h9) rfl (by decide +kernel) rfl rfl (Nat.le_of_ble_eq_true rfl) dX12_startAnew_161 (fun H locs hP hD hS => ?_)
      replace hP : va_P D classes [(a0, .inr (12, MF ad 0 v3 0 (-1) v6 v7 v8 v9 vN 0 v36 v37 v38 v39 v40 v41 0 0 0 0 0)), ((ad 11), .inl (cI, 2, .inl fR)), ((ad 12), .inl (cI, 2, .inl fD)), ((ad 13), .inl (cI, 2, .inl fT)), ((ad 15), .inl (cI, 2, .inl fW)), ((ad 42), .inl (cI, 32, .inl g_25)), ((ad 70), .inl (cZ, 3, .inl fB))] H := hP
      replace hD : va_D A [(a0, .inr (12, MF ad 0 v3 0 (-1) v6 v7 v8 v9 vN 0 v36 v37 v38 v39 v40 v41 0 0 0 0 0)), ((ad 11), .inl (cI, 2, .inl fR)), ((ad 12), .inl (cI, 2, .inl fD)), ((ad 13), .inl (cI, 2, .inl fT)), ((ad 15), .inl (cI, 2, .inl fW)), ((ad 42), .inl (cI, 32, .inl g_25)), ((ad 70), .inl (cZ, 3, .inl fB))] := hD
      refine lv_aload_n hx hb dX12_startAnew_164 rfl (lv_at hl 1 rfl) ?_
      refine lv_iconst (v := 0) hx hb dX12_startAnew_165 (by decide) ?_
      refine va_put (D := D) (ci := 12) (v := .int 0) (ty := tyX12 51) (C := RX12) (T := TX12) (N := 71) hx hb hts iw_X12_startAnew_X12 tyX12 tyX12_ok nmX12 hown hK hP hD hS 0 rfl rfl 51 (by decide) (hts (.fieldLink RX12 418 "SoldHouseModel" "laid" "I") (List.mem_of_getElem? (i := 10) rfl)) (fun _ h9 => h9) rfl (by decide +kernel) rfl rfl (Nat.le_of_ble_eq_true rfl) dX12_startAnew_166 (fun H locs hP hD hS => ?_)
      replace hP : va_P D classes [(a0, .inr (12, MF ad 0 v3 0 (-1) v6 v7 v8 v9 vN 0 v36 v37 v38 v39 v40 v41 0 0 0 0 0)), ((ad 11), .inl (cI, 2, .inl fR)), ((ad 12), .inl (cI, 2, .inl fD)), ((ad 13), .inl (cI, 2, .inl fT)), ((ad 15), .inl (cI, 2, .inl fW)), ((ad 42), .inl (cI, 32, .inl g_25)), ((ad 70), .inl (cZ, 3, .inl fB))] H := hP
      replace hD : va_D A [(a0, .inr (12, MF ad 0 v3 0 (-1) v6 v7 v8 v9 vN 0 v36 v37 v38 v39 v40 v41 0 0 0 0 0)), ((ad 11), .inl (cI, 2, .inl fR)), ((ad 12), .inl (cI, 2, .inl fD)), ((ad 13), .inl (cI, 2, .inl fT)), ((ad 15), .inl (cI, 2, .inl fW)), ((ad 42), .inl (cI, 32, .inl g_25)), ((ad 70), .inl (cZ, 3, .inl fB))] := hD
      refine lv_iconst (v := 0) hx hb dX12_startAnew_169 (by decide) ?_
      refine lv_istore_n (lv' := [(1, .int 0), (0, .ref a0)]) hx hb dX12_startAnew_170 rfl hl (by decide) rfl (fun ls hl => ?_)
      refine lv_iload_n hx hb dX12_startAnew_171 rfl (lv_at hl 0 rfl) ?_
      refine lv_iconst (v := 3) hx hb dX12_startAnew_172 (by decide) ?_
      refine lv_icmp_ge (tgt := 189) hx hb dX12_startAnew_173 (by decide) (fun c_27 => absurd c_27 (by decide)) (fun _ => ?_)
      refine lv_aload_n hx hb dX12_startAnew_176 rfl (lv_at hl 1 rfl) ?_
      refine va_get (D := D) (ci := 12) (v := .ref (ad 70)) (C := RX12) (T := TX12) (N := 71) hx hb hts iw_X12_startAnew_X12 hown hK hP 0 rfl rfl 70 (by decide) (hts (.fieldLink RX12 164 "SoldHouseModel" "isBoxed" "[Z") (List.mem_of_getElem? (i := 11) rfl)) (fun _ h9 => h9) rfl dX12_startAnew_177 ?_
      refine lv_iload_n hx hb dX12_startAnew_180 rfl (lv_at hl 0 rfl) ?_
      refine lv_iconst (v := 0) hx hb dX12_startAnew_181 (by decide) ?_
      refine va_zast hx hb hK hP hD hS 6 3 rfl rfl (show vp_in 0 3 from (by decide : ¬ ((0 : Int32) < 0 ∨ 3 ≤ Int32.toNatClampNeg 0))) dX12_startAnew_182 (fun H locs hP hD hS => ?_)
      replace hP : va_P D classes [(a0, .inr (12, MF ad 0 v3 0 (-1) v6 v7 v8 v9 vN 0 v36 v37 v38 v39 v40 v41 0 0 0 0 0)), ((ad 11), .inl (cI, 2, .inl fR)), ((ad 12), .inl (cI, 2, .inl fD)), ((ad 13), .inl (cI, 2, .inl fT)), ((ad 15), .inl (cI, 2, .inl fW)), ((ad 42), .inl (cI, 32, .inl g_25)), ((ad 70), .inl (cZ, 3, .inl (upd fB (Int32.toNatClampNeg 0) (vp_nar .boolean 0))))] H := hP
      replace hD : va_D A [(a0, .inr (12, MF ad 0 v3 0 (-1) v6 v7 v8 v9 vN 0 v36 v37 v38 v39 v40 v41 0 0 0 0 0)), ((ad 11), .inl (cI, 2, .inl fR)), ((ad 12), .inl (cI, 2, .inl fD)), ((ad 13), .inl (cI, 2, .inl fT)), ((ad 15), .inl (cI, 2, .inl fW)), ((ad 42), .inl (cI, 32, .inl g_25)), ((ad 70), .inl (cZ, 3, .inl (upd fB (Int32.toNatClampNeg 0) (vp_nar .boolean 0))))] := hD
      generalize eg_28 : upd fB (Int32.toNatClampNeg 0) (vp_nar .boolean 0) = g_28 at hP hD
      have g_28_0 : g_28 0 = 0 := by rw [← eg_28]; exact pk_us.trans (by decide)
      clear eg_28
      refine lv_iinc (v := 1) (lv' := [(1, .int 1), (0, .ref a0)]) hx hb dX12_startAnew_183 hl (k := 0) rfl (by decide) (by decide) rfl (fun ls hl => ?_)
      refine lv_goto (tgt := 171) hx hb dX12_startAnew_186 (by decide) ?_
      refine lv_iload_n hx hb dX12_startAnew_171 rfl (lv_at hl 0 rfl) ?_
      refine lv_iconst (v := 3) hx hb dX12_startAnew_172 (by decide) ?_
      refine lv_icmp_ge (tgt := 189) hx hb dX12_startAnew_173 (by decide) (fun c_29 => absurd c_29 (by decide)) (fun _ => ?_)
      refine lv_aload_n hx hb dX12_startAnew_176 rfl (lv_at hl 1 rfl) ?_
      refine va_get (D := D) (ci := 12) (v := .ref (ad 70)) (C := RX12) (T := TX12) (N := 71) hx hb hts iw_X12_startAnew_X12 hown hK hP 0 rfl rfl 70 (by decide) (hts (.fieldLink RX12 164 "SoldHouseModel" "isBoxed" "[Z") (List.mem_of_getElem? (i := 11) rfl)) (fun _ h9 => h9) rfl dX12_startAnew_177 ?_
      refine lv_iload_n hx hb dX12_startAnew_180 rfl (lv_at hl 0 rfl) ?_
      refine lv_iconst (v := 0) hx hb dX12_startAnew_181 (by decide) ?_
      refine va_zast hx hb hK hP hD hS 6 3 rfl rfl (show vp_in 1 3 from (by decide : ¬ ((1 : Int32) < 0 ∨ 3 ≤ Int32.toNatClampNeg 1))) dX12_startAnew_182 (fun H locs hP hD hS => ?_)
      replace hP : va_P D classes [(a0, .inr (12, MF ad 0 v3 0 (-1) v6 v7 v8 v9 vN 0 v36 v37 v38 v39 v40 v41 0 0 0 0 0)), ((ad 11), .inl (cI, 2, .inl fR)), ((ad 12), .inl (cI, 2, .inl fD)), ((ad 13), .inl (cI, 2, .inl fT)), ((ad 15), .inl (cI, 2, .inl fW)), ((ad 42), .inl (cI, 32, .inl g_25)), ((ad 70), .inl (cZ, 3, .inl (upd g_28 (Int32.toNatClampNeg 1) (vp_nar .boolean 0))))] H := hP
      replace hD : va_D A [(a0, .inr (12, MF ad 0 v3 0 (-1) v6 v7 v8 v9 vN 0 v36 v37 v38 v39 v40 v41 0 0 0 0 0)), ((ad 11), .inl (cI, 2, .inl fR)), ((ad 12), .inl (cI, 2, .inl fD)), ((ad 13), .inl (cI, 2, .inl fT)), ((ad 15), .inl (cI, 2, .inl fW)), ((ad 42), .inl (cI, 32, .inl g_25)), ((ad 70), .inl (cZ, 3, .inl (upd g_28 (Int32.toNatClampNeg 1) (vp_nar .boolean 0))))] := hD
      generalize eg_30 : upd g_28 (Int32.toNatClampNeg 1) (vp_nar .boolean 0) = g_30 at hP hD
      have g_30_0 : g_30 0 = 0 := by rw [← eg_30]; exact (pk_un (by decide)).trans g_28_0
      have g_30_1 : g_30 1 = 0 := by rw [← eg_30]; exact pk_us.trans (by decide)
      clear eg_30
      refine lv_iinc (v := 2) (lv' := [(1, .int 2), (0, .ref a0)]) hx hb dX12_startAnew_183 hl (k := 0) rfl (by decide) (by decide) rfl (fun ls hl => ?_)
      refine lv_goto (tgt := 171) hx hb dX12_startAnew_186 (by decide) ?_
      refine lv_iload_n hx hb dX12_startAnew_171 rfl (lv_at hl 0 rfl) ?_
      refine lv_iconst (v := 3) hx hb dX12_startAnew_172 (by decide) ?_
      refine lv_icmp_ge (tgt := 189) hx hb dX12_startAnew_173 (by decide) (fun c_31 => absurd c_31 (by decide)) (fun _ => ?_)
      refine lv_aload_n hx hb dX12_startAnew_176 rfl (lv_at hl 1 rfl) ?_
      refine va_get (D := D) (ci := 12) (v := .ref (ad 70)) (C := RX12) (T := TX12) (N := 71) hx hb hts iw_X12_startAnew_X12 hown hK hP 0 rfl rfl 70 (by decide) (hts (.fieldLink RX12 164 "SoldHouseModel" "isBoxed" "[Z") (List.mem_of_getElem? (i := 11) rfl)) (fun _ h9 => h9) rfl dX12_startAnew_177 ?_
      refine lv_iload_n hx hb dX12_startAnew_180 rfl (lv_at hl 0 rfl) ?_
      refine lv_iconst (v := 0) hx hb dX12_startAnew_181 (by decide) ?_
      refine va_zast hx hb hK hP hD hS 6 3 rfl rfl (show vp_in 2 3 from (by decide : ¬ ((2 : Int32) < 0 ∨ 3 ≤ Int32.toNatClampNeg 2))) dX12_startAnew_182 (fun H locs hP hD hS => ?_)
      replace hP : va_P D classes [(a0, .inr (12, MF ad 0 v3 0 (-1) v6 v7 v8 v9 vN 0 v36 v37 v38 v39 v40 v41 0 0 0 0 0)), ((ad 11), .inl (cI, 2, .inl fR)), ((ad 12), .inl (cI, 2, .inl fD)), ((ad 13), .inl (cI, 2, .inl fT)), ((ad 15), .inl (cI, 2, .inl fW)), ((ad 42), .inl (cI, 32, .inl g_25)), ((ad 70), .inl (cZ, 3, .inl (upd g_30 (Int32.toNatClampNeg 2) (vp_nar .boolean 0))))] H := hP
      replace hD : va_D A [(a0, .inr (12, MF ad 0 v3 0 (-1) v6 v7 v8 v9 vN 0 v36 v37 v38 v39 v40 v41 0 0 0 0 0)), ((ad 11), .inl (cI, 2, .inl fR)), ((ad 12), .inl (cI, 2, .inl fD)), ((ad 13), .inl (cI, 2, .inl fT)), ((ad 15), .inl (cI, 2, .inl fW)), ((ad 42), .inl (cI, 32, .inl g_25)), ((ad 70), .inl (cZ, 3, .inl (upd g_30 (Int32.toNatClampNeg 2) (vp_nar .boolean 0))))] := hD
      generalize eg_32 : upd g_30 (Int32.toNatClampNeg 2) (vp_nar .boolean 0) = g_32 at hP hD
      have g_32_0 : g_32 0 = 0 := by rw [← eg_32]; exact (pk_un (by decide)).trans g_30_0
      have g_32_1 : g_32 1 = 0 := by rw [← eg_32]; exact (pk_un (by decide)).trans g_30_1
      have g_32_2 : g_32 2 = 0 := by rw [← eg_32]; exact pk_us.trans (by decide)
      clear eg_32
      refine lv_iinc (v := 3) (lv' := [(1, .int 3), (0, .ref a0)]) hx hb dX12_startAnew_183 hl (k := 0) rfl (by decide) (by decide) rfl (fun ls hl => ?_)
      refine lv_goto (tgt := 171) hx hb dX12_startAnew_186 (by decide) ?_
      refine lv_iload_n hx hb dX12_startAnew_171 rfl (lv_at hl 0 rfl) ?_
      refine lv_iconst (v := 3) hx hb dX12_startAnew_172 (by decide) ?_
      refine lv_icmp_ge (tgt := 189) hx hb dX12_startAnew_173 (by decide) (fun _ => ?_) (fun c_33 => absurd (by decide) c_33)
      have hP9 := hP.sub (ws' := [(a0, .inr (12, MF ad 0 v3 0 (-1) v6 v7 v8 v9 vN 0 v36 v37 v38 v39 v40 v41 0 0 0 0 0)), ((ad 11), .inl (cI, 2, .inl fR)), ((ad 12), .inl (cI, 2, .inl fD)), ((ad 13), .inl (cI, 2, .inl fT)), ((ad 15), .inl (cI, 2, .inl fW)), ((ad 42), .inl (cI, 32, .inl g_25)), ((ad 70), .inl (cZ, 3, .inl g_32))]) [0, 1, 2, 3, 4, 5, 6] rfl
      have hD9 := hD.sub (ws' := [(a0, .inr (12, MF ad 0 v3 0 (-1) v6 v7 v8 v9 vN 0 v36 v37 v38 v39 v40 v41 0 0 0 0 0)), ((ad 11), .inl (cI, 2, .inl fR)), ((ad 12), .inl (cI, 2, .inl fD)), ((ad 13), .inl (cI, 2, .inl fT)), ((ad 15), .inl (cI, 2, .inl fW)), ((ad 42), .inl (cI, 32, .inl g_25)), ((ad 70), .inl (cZ, 3, .inl g_32))]) [0, 1, 2, 3, 4, 5, 6] (by decide) rfl
      refine W.widen (k := 0) (n := 0) (Nat.le_of_ble_eq_true rfl) (Nat.le_of_ble_eq_true rfl) ?_
      exact W.vret hx hb hr (fun t ht hW => ⟨⟨(), rfl, trivial, ⟨g_25, g_32, g_25_30, g_25_31, g_32_0, g_32_1, g_32_2, by rw [ht]; exact hP9, hD9⟩⟩, hS.F ht⟩) hS.2.2 dX12_startAnew_189
    · have hlt_i2 : i2 < 32 := by
        rcases Nat.lt_or_ge i2 32 with q | q
        · exact q
        · exact absurd (nI_le q (by omega)) c_2
      refine lv_aload_n hx hb dX12_startAnew_8 rfl (lv_at hl 1 rfl) ?_
      refine va_get (D := D) (ci := 12) (v := .ref (ad 42)) (C := RX12) (T := TX12) (N := 71) hx hb hts iw_X12_startAnew_X12 hown hK hP 0 rfl rfl 42 (by decide) (hts (.fieldLink RX12 95 "SoldHouseModel" "all" "[I") (List.mem_of_getElem? (i := 1) rfl)) (fun _ h9 => h9) rfl dX12_startAnew_9 ?_
      refine lv_iload_n hx hb dX12_startAnew_12 rfl (lv_at hl 0 rfl) ?_
      refine lv_iconst (v := 0) hx hb dX12_startAnew_13 (by decide) ?_
      refine va_iast hx hb hK hP hD hS 5 0 rfl rfl (vp_in_nI (by omega) (by decide)) dX12_startAnew_14 (fun H locs hP hD hS => ?_)
      replace hP : va_P D classes [(a0, .inr (12, MF ad 0 v3 0 (-1) v6 v7 v8 v9 vN 0 v36 v37 v38 v39 v40 v41 0 0 0 0 0)), ((ad 11), .inl (cI, 2, .inl fR)), ((ad 12), .inl (cI, 2, .inl fD)), ((ad 13), .inl (cI, 2, .inl fT)), ((ad 15), .inl (cI, 2, .inl fW)), ((ad 42), .inl (cI, 32, .inl (upd g_1 (Int32.toNatClampNeg (nI i2)) 0))), ((ad 70), .inl (cZ, 3, .inl fB))] H := hP
      replace hD : va_D A [(a0, .inr (12, MF ad 0 v3 0 (-1) v6 v7 v8 v9 vN 0 v36 v37 v38 v39 v40 v41 0 0 0 0 0)), ((ad 11), .inl (cI, 2, .inl fR)), ((ad 12), .inl (cI, 2, .inl fD)), ((ad 13), .inl (cI, 2, .inl fT)), ((ad 15), .inl (cI, 2, .inl fW)), ((ad 42), .inl (cI, 32, .inl (upd g_1 (Int32.toNatClampNeg (nI i2)) 0))), ((ad 70), .inl (cZ, 3, .inl fB))] := hD
      generalize eg_34 : upd g_1 (Int32.toNatClampNeg (nI i2)) 0 = g_34 at hP hD
      have g_34_30 : g_34 30 = 0 := by rw [← eg_34]; exact zz_upd0 g_1_30
      have g_34_31 : g_34 31 = 0 := by rw [← eg_34]; exact zz_upd0 g_1_31
      clear eg_34
      refine lv_iinc (v := nI (i2 + 1)) (lv' := [(1, .int (nI (i2 + 1))), (0, .ref a0)]) hx hb dX12_startAnew_15 hl (k := 0) rfl (nI_1 i2) (by decide) rfl (fun ls hl => ?_)
      refine lv_goto (tgt := 2) hx hb dX12_startAnew_18 (by decide) ?_
      replace hl : lv_has ls 2 [(1, .int (nI (i2 + 1))), (0, .ref a0)] := lv_sub hl [0, 1] rfl
      apply ih2 (i2 := (i2 + 1)) (H := H) (locs := locs) (ls := ls) (g_1 := (g_34)) <;> first | assumption | omega
set_option maxHeartbeats 4000000 in
set_option maxRecDepth 100000 in
theorem m_layTable1 (l : Launch) (D : va_G) (cI : ClassId) (cB : ClassId) (cL : ClassId) (cZ : ClassId) (a0 : Nat) (ad : Nat → Nat) (v3 : Int32) (v6 : Int32) (v7 : Int32) (v8 : Int32) (v9 : Int32) (v36 : Int32) (v37 : Int32) (v38 : Int32) (v39 : Int32) (v40 : Int32) (v41 : Int32) (vN : Int64) (fR : Nat → Int32) (fD : Nat → Int32) (hf_fR_1 : fR 1 = 0) (hf_fD_1 : fD 1 = 0) : Met l yX12_layTable wsX12_layTable ({ frames := 1, cells := 0, slots := 0, locals := 20 }) (xr D [(cI, .int), (cB, .byte), (cL, .long), (cZ, .boolean)] [(a0, .inr (12, MF ad 0 v3 0 (-1) v6 v7 v8 v9 vN 1 v36 v37 v38 v39 v40 v41 0 0 0 0 0)), ((ad 11), .inl (cI, 2, .inl fR)), ((ad 12), .inl (cI, 2, .inl fD))] [.ref a0]) (va_Sv (fun _ => True)) 0 0 (fun _ => False) := by
  refine Met.ofW (cc := cX12_layTable) (maxL := 7) (ret := none) (by decide) rfl ?_
  intro p e s m args below meth c s₁ B hml hv
  obtain ⟨rfl, hP, hK⟩ := hv
  have hx := B.exec
  have hb := B.bytes
  have hr := B.returns
  have hts := atoms_spec (ws := wsX12_layTable) B.pre
  have hown : s.vm.findClass RX12 = some m.cls := findClass_of_methodNamed B.named
  have hlocks := B.notSynchronized
  have hl := lv_entry ([.ref a0]) (n := 7) (Nat.le_of_ble_eq_true rfl)
  rw [lg_entry_eq]
  generalize (lg_sl ([.ref a0]) ++ List.replicate (7 - (lg_sl ([.ref a0])).length) Slot.unset).toArray = ls at hl ⊢
  replace hl : lv_has ls 7 [(0, .ref a0)] := hl
  refine lv_iconst (v := 0) hx hb dX12_layTable_0 (by decide) ?_
  refine lv_istore_n (lv' := [(1, .int 0), (0, .ref a0)]) hx hb dX12_layTable_1 rfl hl (by decide) rfl (fun ls hl => ?_)
  refine lv_iload_n hx hb dX12_layTable_2 rfl (lv_at hl 0 rfl) ?_
  refine lv_aload_n hx hb dX12_layTable_3 rfl (lv_at hl 1 rfl) ?_
  have hPc := hP.sub (ws' := [(a0, .inr (12, MF ad 0 v3 0 (-1) v6 v7 v8 v9 vN 1 v36 v37 v38 v39 v40 v41 0 0 0 0 0)), ((ad 11), .inl (cI, 2, .inl fR))]) [0, 1] rfl
  refine vp_callSi (va_runV (As := []) (rest := [.int 0]) ⟨hx, hb, hml, hown, hts⟩ (m_places1 l D cI cB cL cZ a0 ad v3 v6 v7 v8 v9 v36 v37 v38 v39 v40 v41 vN fR hf_fR_1) (cwV 0 hts gX12_layTable_X12_places rfl rfl rfl (by decide +kernel) ⟨Nat.le_of_ble_eq_true rfl, Nat.le_of_ble_eq_true rfl⟩) ⟨xr_blind, va_recv hK hPc (ci := 12) (q0 := 0) rfl rfl, fun U hU hW => xr_mk hU hW hPc hK⟩ rfl rfl hl.1 rfl (lv_room (Nat.le_of_ble_eq_true rfl)) dX12_layTable_4 ⟨Nat.le_of_ble_eq_true rfl, Nat.le_of_ble_eq_true rfl⟩).run (fun r_1 hr_1 => ?_)
  clear hPc
  subst hr_1
  refine lv_icmp_ge (tgt := 141) hx hb dX12_layTable_7 (by decide) (fun _ => ?_) (fun c_2 => absurd (by decide) c_2)
  refine lv_iconst (v := 0) hx hb dX12_layTable_141 (by decide) ?_
  refine lv_istore_n (lv' := [(1, .int 0), (0, .ref a0)]) hx hb dX12_layTable_142 rfl hl (by decide) rfl (fun ls hl => ?_)
  refine lv_iload_n hx hb dX12_layTable_143 rfl (lv_at hl 0 rfl) ?_
  refine lv_aload_n hx hb dX12_layTable_144 rfl (lv_at hl 1 rfl) ?_
  refine va_get (D := D) (ci := 12) (v := .ref (ad 12)) (C := RX12) (T := TX12) (N := 71) hx hb hts iw_X12_layTable_X12 hown hK hP 0 rfl rfl 12 (by decide) (hts (.fieldLink RX12 24 "SoldHouseModel" "doors" "[I") (List.mem_of_getElem? (i := 2) rfl)) (fun _ h9 => h9) rfl dX12_layTable_145 ?_
  refine lv_aload_n hx hb dX12_layTable_148 rfl (lv_at hl 1 rfl) ?_
  refine va_get (D := D) (ci := 12) (v := .int 1) (C := RX12) (T := TX12) (N := 71) hx hb hts iw_X12_layTable_X12 hown hK hP 0 rfl rfl 35 (by decide) (hts (.fieldLink RX12 280 "SoldHouseModel" "bank" "I") (List.mem_of_getElem? (i := 3) rfl)) (fun _ h9 => h9) rfl dX12_layTable_149 ?_
  refine va_iald hx hb hK hP 2 0 rfl rfl (show vp_in 1 2 from (by decide : ¬ ((1 : Int32) < 0 ∨ 2 ≤ Int32.toNatClampNeg 1))) dX12_layTable_152 ?_
  refine lv_topi (fun y_3 ey_3 => ?_)
  obtain rfl : y_3 = 0 := ey_3.trans hf_fD_1
  refine lv_icmp_ge (tgt := 178) hx hb dX12_layTable_153 (by decide) (fun _ => ?_) (fun c_4 => absurd (by decide) c_4)
  exact W.vret hx hb hr (fun t ht hW => ⟨rfl, trivial, ht⟩) (fun q hq => by cases hq) dX12_layTable_178
set_option maxHeartbeats 4000000 in
set_option maxRecDepth 100000 in
theorem m_startAnew1 (l : Launch) (D : va_G) (cI : ClassId) (cB : ClassId) (cL : ClassId) (cZ : ClassId) (a0 : Nat) (ad : Nat → Nat) (v3 : Int32) (v6 : Int32) (v7 : Int32) (v8 : Int32) (v9 : Int32) (v36 : Int32) (v37 : Int32) (v38 : Int32) (v39 : Int32) (v40 : Int32) (v41 : Int32) (vN : Int64) (fR : Nat → Int32) (fD : Nat → Int32) (fT : Nat → Int32) (fW : Nat → Int32) (fA : Nat → Int32) (fB : Nat → Int32) (sz : Nat) (hf_fR_1 : fR 1 = 0) (hf_fD_1 : fD 1 = 0) (hf_fT_1 : fT 1 = 0) (hf_fW_1 : fW 1 = 0) (hf_fA_30 : fA 30 = 0) (hf_fA_31 : fA 31 = 0) : Met l yX12_startAnew wsX12_startAnew ({ frames := 2, cells := 0, slots := 0, locals := 46 }) (xp D [(cI, .int), (cB, .byte), (cL, .long), (cZ, .boolean)] [(a0, .inr (12, MF ad 0 v3 0 (-1) v6 v7 v8 v9 vN 1 v36 v37 v38 v39 v40 v41 0 0 0 0 0)), ((ad 11), .inl (cI, 2, .inl fR)), ((ad 12), .inl (cI, 2, .inl fD)), ((ad 13), .inl (cI, 2, .inl fT)), ((ad 15), .inl (cI, 2, .inl fW)), ((ad 42), .inl (cI, 32, .inl fA)), ((ad 70), .inl (cZ, 3, .inl fB))] sz [] [.ref a0]) (va_Qv (fun _ : Unit => True) (fun (_ : Unit) (t : State) => ∃ (gA : Nat → Int32), ∃ (gB : Nat → Int32), gA 30 = 0 ∧ gA 31 = 0 ∧ gB 0 = 0 ∧ gB 1 = 0 ∧ gB 2 = 0 ∧ xB D (va_A [(a0, .inr (12, MF ad 0 v3 0 (-1) v6 v7 v8 v9 vN 1 v36 v37 v38 v39 v40 v41 0 0 0 0 0)), ((ad 11), .inl (cI, 2, .inl fR)), ((ad 12), .inl (cI, 2, .inl fD)), ((ad 13), .inl (cI, 2, .inl fT)), ((ad 15), .inl (cI, 2, .inl fW)), ((ad 42), .inl (cI, 32, .inl fA)), ((ad 70), .inl (cZ, 3, .inl fB))] sz) [(a0, .inr (12, MF ad 0 v3 0 (-1) v6 v7 v8 v9 vN 1 v36 v37 v38 v39 v40 v41 0 0 0 0 0)), ((ad 11), .inl (cI, 2, .inl fR)), ((ad 12), .inl (cI, 2, .inl fD)), ((ad 13), .inl (cI, 2, .inl fT)), ((ad 15), .inl (cI, 2, .inl fW)), ((ad 42), .inl (cI, 32, .inl gA)), ((ad 70), .inl (cZ, 3, .inl gB))] t) (va_A [(a0, .inr (12, MF ad 0 v3 0 (-1) v6 v7 v8 v9 vN 1 v36 v37 v38 v39 v40 v41 0 0 0 0 0)), ((ad 11), .inl (cI, 2, .inl fR)), ((ad 12), .inl (cI, 2, .inl fD)), ((ad 13), .inl (cI, 2, .inl fT)), ((ad 15), .inl (cI, 2, .inl fW)), ((ad 42), .inl (cI, 32, .inl fA)), ((ad 70), .inl (cZ, 3, .inl fB))] sz)) 0 0 (va_A [(a0, .inr (12, MF ad 0 v3 0 (-1) v6 v7 v8 v9 vN 1 v36 v37 v38 v39 v40 v41 0 0 0 0 0)), ((ad 11), .inl (cI, 2, .inl fR)), ((ad 12), .inl (cI, 2, .inl fD)), ((ad 13), .inl (cI, 2, .inl fT)), ((ad 15), .inl (cI, 2, .inl fW)), ((ad 42), .inl (cI, 32, .inl fA)), ((ad 70), .inl (cZ, 3, .inl fB))] sz) := by
  refine Met.ofW (cc := cX12_startAnew) (maxL := 2) (ret := none) (by decide) rfl ?_
  intro p e s m args below meth c s₁ B hml hv
  obtain ⟨rfl, hsz, hP, hK, hD0, hNw⟩ := hv
  have hx := B.exec
  have hb := B.bytes
  have hr := B.returns
  have hts := atoms_spec (ws := wsX12_startAnew) B.pre
  have hown : s.vm.findClass RX12 = some m.cls := findClass_of_methodNamed B.named
  have hlocks := B.notSynchronized
  subst hsz
  have hD := hD0.self (sz := s.heap.size)
  clear hD0
  generalize hAe : va_A [(a0, .inr (12, MF ad 0 v3 0 (-1) v6 v7 v8 v9 vN 1 v36 v37 v38 v39 v40 v41 0 0 0 0 0)), ((ad 11), .inl (cI, 2, .inl fR)), ((ad 12), .inl (cI, 2, .inl fD)), ((ad 13), .inl (cI, 2, .inl fT)), ((ad 15), .inl (cI, 2, .inl fW)), ((ad 42), .inl (cI, 32, .inl fA)), ((ad 70), .inl (cZ, 3, .inl fB))] s.heap.size = A at hD ⊢
  have hA : ∀ q : Nat, s.heap.size ≤ q → A q := fun q h => by rw [← hAe]; exact Or.inr h
  have hS : va_S A s.heap s.heap [] := va_S.rf
  clear hAe
  obtain ⟨H, hH⟩ : ∃ H : Heap, H = s.heap := ⟨_, rfl⟩
  obtain ⟨locs, hlocs⟩ : ∃ L : List Loc, L = [] := ⟨_, rfl⟩
  replace hP : va_P D classes [(a0, .inr (12, MF ad 0 v3 0 (-1) v6 v7 v8 v9 vN 1 v36 v37 v38 v39 v40 v41 0 0 0 0 0)), ((ad 11), .inl (cI, 2, .inl fR)), ((ad 12), .inl (cI, 2, .inl fD)), ((ad 13), .inl (cI, 2, .inl fT)), ((ad 15), .inl (cI, 2, .inl fW)), ((ad 42), .inl (cI, 32, .inl fA)), ((ad 70), .inl (cZ, 3, .inl fB))] H := by rw [hH]; exact hP
  replace hS : va_S A s.heap H locs := by rw [hH, hlocs]; exact hS
  rw [← hH, ← hlocs]
  clear hlocs hH
  have hl := lv_entry ([.ref a0]) (n := 2) (Nat.le_of_ble_eq_true rfl)
  rw [lg_entry_eq]
  generalize (lg_sl ([.ref a0]) ++ List.replicate (2 - (lg_sl ([.ref a0])).length) Slot.unset).toArray = ls at hl ⊢
  replace hl : lv_has ls 2 [(0, .ref a0)] := hl
  refine lv_iconst (v := 0) hx hb dX12_startAnew_0 (by decide) ?_
  refine lv_istore_n (lv' := [(1, .int 0), (0, .ref a0)]) hx hb dX12_startAnew_1 rfl hl (by decide) rfl (fun ls hl => ?_)
  obtain ⟨i2, hi2⟩ : ∃ i : Nat, i = 0 := ⟨0, rfl⟩
  replace hl : lv_has ls 2 [(1, .int (nI i2)), (0, .ref a0)] := by
    rw [hi2]; exact hl
  obtain ⟨g_1, eg_1⟩ : ∃ g : Nat → Int32, g = fA := ⟨_, rfl⟩
  have g_1_30 : g_1 30 = 0 := by rw [eg_1]; exact hf_fA_30
  have g_1_31 : g_1 31 = 0 := by rw [eg_1]; exact hf_fA_31
  rw [← eg_1] at hP hD
  clear eg_1
  have hle_i2 : i2 ≤ 32 := by omega
  obtain ⟨n2, hnn2⟩ : ∃ n : Nat, 32 + 1 ≤ i2 + n := ⟨32 + 1, by omega⟩
  clear hi2
  induction n2 generalizing i2 H locs ls g_1 with
  | zero => omega
  | succ n2 ih2 =>
    refine lv_iload_n hx hb dX12_startAnew_2 rfl (lv_at hl 0 rfl) ?_
    refine lv_bipush (v := 32) hx hb dX12_startAnew_3 (by decide) ?_
    refine lv_icmp_ge (tgt := 21) hx hb dX12_startAnew_5 (by decide) (fun c_2 => ?_) (fun c_2 => ?_)
    · refine lv_iconst (v := 0) hx hb dX12_startAnew_21 (by decide) ?_
      refine lv_istore_n (lv' := [(1, .int 0), (0, .ref a0)]) hx hb dX12_startAnew_22 rfl hl (by decide) rfl (fun ls hl => ?_)
      refine lv_iload_n hx hb dX12_startAnew_23 rfl (lv_at hl 0 rfl) ?_
      refine lv_aload_n hx hb dX12_startAnew_24 rfl (lv_at hl 1 rfl) ?_
      have hPc := hP.sub (ws' := [(a0, .inr (12, MF ad 0 v3 0 (-1) v6 v7 v8 v9 vN 1 v36 v37 v38 v39 v40 v41 0 0 0 0 0)), ((ad 13), .inl (cI, 2, .inl fT))]) [0, 3] rfl
      refine vp_callSi (va_runV (As := []) (rest := [.int 0]) ⟨hx, hb, hml, hown, hts⟩ (m_many1 l D cI cB cL cZ a0 ad v3 v6 v7 v8 v9 v36 v37 v38 v39 v40 v41 vN fT hf_fT_1) (cwV 0 hts gX12_startAnew_X12_many rfl rfl rfl (by decide +kernel) ⟨Nat.le_of_ble_eq_true rfl, Nat.le_of_ble_eq_true rfl⟩) ⟨xr_blind, va_recv hK hPc (ci := 12) (q0 := 0) rfl rfl, fun U hU hW => xr_mk hU hW hPc hK⟩ rfl rfl hl.1 rfl (lv_room (Nat.le_of_ble_eq_true rfl)) dX12_startAnew_25 ⟨Nat.le_of_ble_eq_true rfl, Nat.le_of_ble_eq_true rfl⟩).run (fun r_3 hr_3 => ?_)
      clear hPc
      subst hr_3
      refine lv_icmp_ge (tgt := 105) hx hb dX12_startAnew_28 (by decide) (fun _ => ?_) (fun c_4 => absurd (by decide) c_4)
      refine lv_iconst (v := 0) hx hb dX12_startAnew_105 (by decide) ?_
      refine lv_istore_n (lv' := [(1, .int 0), (0, .ref a0)]) hx hb dX12_startAnew_106 rfl hl (by decide) rfl (fun ls hl => ?_)
      refine lv_iload_n hx hb dX12_startAnew_107 rfl (lv_at hl 0 rfl) ?_
      refine lv_bipush (v := 6) hx hb dX12_startAnew_108 (by decide) ?_
      refine lv_icmp_ge (tgt := 129) hx hb dX12_startAnew_110 (by decide) (fun c_5 => absurd c_5 (by decide)) (fun _ => ?_)
      refine lv_aload_n hx hb dX12_startAnew_113 rfl (lv_at hl 1 rfl) ?_
      refine va_get (D := D) (ci := 12) (v := .ref (ad 42)) (C := RX12) (T := TX12) (N := 71) hx hb hts iw_X12_startAnew_X12 hown hK hP 0 rfl rfl 42 (by decide) (hts (.fieldLink RX12 95 "SoldHouseModel" "all" "[I") (List.mem_of_getElem? (i := 1) rfl)) (fun _ h9 => h9) rfl dX12_startAnew_114 ?_
      refine lv_bipush (v := 24) hx hb dX12_startAnew_117 (by decide) ?_
      refine lv_iload_n hx hb dX12_startAnew_119 rfl (lv_at hl 0 rfl) ?_
      refine lv_iadd hx hb dX12_startAnew_120 ?_
      refine lv_topi (fun y_6 ey_6 => ?_)
      obtain rfl : y_6 = 24 := ey_6.trans (by decide)
      refine lv_iconst (v := (-1)) hx hb dX12_startAnew_121 (by decide) ?_
      refine va_iast hx hb hK hP hD hS 5 0 rfl rfl (show vp_in 24 32 from (by decide : ¬ ((24 : Int32) < 0 ∨ 32 ≤ Int32.toNatClampNeg 24))) dX12_startAnew_122 (fun H locs hP hD hS => ?_)
      replace hP : va_P D classes [(a0, .inr (12, MF ad 0 v3 0 (-1) v6 v7 v8 v9 vN 1 v36 v37 v38 v39 v40 v41 0 0 0 0 0)), ((ad 11), .inl (cI, 2, .inl fR)), ((ad 12), .inl (cI, 2, .inl fD)), ((ad 13), .inl (cI, 2, .inl fT)), ((ad 15), .inl (cI, 2, .inl fW)), ((ad 42), .inl (cI, 32, .inl (upd g_1 (Int32.toNatClampNeg 24) (-1)))), ((ad 70), .inl (cZ, 3, .inl fB))] H := hP
      replace hD : va_D A [(a0, .inr (12, MF ad 0 v3 0 (-1) v6 v7 v8 v9 vN 1 v36 v37 v38 v39 v40 v41 0 0 0 0 0)), ((ad 11), .inl (cI, 2, .inl fR)), ((ad 12), .inl (cI, 2, .inl fD)), ((ad 13), .inl (cI, 2, .inl fT)), ((ad 15), .inl (cI, 2, .inl fW)), ((ad 42), .inl (cI, 32, .inl (upd g_1 (Int32.toNatClampNeg 24) (-1)))), ((ad 70), .inl (cZ, 3, .inl fB))] := hD
      generalize eg_7 : upd g_1 (Int32.toNatClampNeg 24) (-1) = g_7 at hP hD
      have g_7_30 : g_7 30 = 0 := by rw [← eg_7]; exact (pk_un (by decide)).trans g_1_30
      have g_7_31 : g_7 31 = 0 := by rw [← eg_7]; exact (pk_un (by decide)).trans g_1_31
      clear eg_7
      refine lv_iinc (v := 1) (lv' := [(1, .int 1), (0, .ref a0)]) hx hb dX12_startAnew_123 hl (k := 0) rfl (by decide) (by decide) rfl (fun ls hl => ?_)
      refine lv_goto (tgt := 107) hx hb dX12_startAnew_126 (by decide) ?_
      refine lv_iload_n hx hb dX12_startAnew_107 rfl (lv_at hl 0 rfl) ?_
      refine lv_bipush (v := 6) hx hb dX12_startAnew_108 (by decide) ?_
      refine lv_icmp_ge (tgt := 129) hx hb dX12_startAnew_110 (by decide) (fun c_8 => absurd c_8 (by decide)) (fun _ => ?_)
      refine lv_aload_n hx hb dX12_startAnew_113 rfl (lv_at hl 1 rfl) ?_
      refine va_get (D := D) (ci := 12) (v := .ref (ad 42)) (C := RX12) (T := TX12) (N := 71) hx hb hts iw_X12_startAnew_X12 hown hK hP 0 rfl rfl 42 (by decide) (hts (.fieldLink RX12 95 "SoldHouseModel" "all" "[I") (List.mem_of_getElem? (i := 1) rfl)) (fun _ h9 => h9) rfl dX12_startAnew_114 ?_
      refine lv_bipush (v := 24) hx hb dX12_startAnew_117 (by decide) ?_
      refine lv_iload_n hx hb dX12_startAnew_119 rfl (lv_at hl 0 rfl) ?_
      refine lv_iadd hx hb dX12_startAnew_120 ?_
      refine lv_topi (fun y_9 ey_9 => ?_)
      obtain rfl : y_9 = 25 := ey_9.trans (by decide)
      refine lv_iconst (v := (-1)) hx hb dX12_startAnew_121 (by decide) ?_
      refine va_iast hx hb hK hP hD hS 5 0 rfl rfl (show vp_in 25 32 from (by decide : ¬ ((25 : Int32) < 0 ∨ 32 ≤ Int32.toNatClampNeg 25))) dX12_startAnew_122 (fun H locs hP hD hS => ?_)
      replace hP : va_P D classes [(a0, .inr (12, MF ad 0 v3 0 (-1) v6 v7 v8 v9 vN 1 v36 v37 v38 v39 v40 v41 0 0 0 0 0)), ((ad 11), .inl (cI, 2, .inl fR)), ((ad 12), .inl (cI, 2, .inl fD)), ((ad 13), .inl (cI, 2, .inl fT)), ((ad 15), .inl (cI, 2, .inl fW)), ((ad 42), .inl (cI, 32, .inl (upd g_7 (Int32.toNatClampNeg 25) (-1)))), ((ad 70), .inl (cZ, 3, .inl fB))] H := hP
      replace hD : va_D A [(a0, .inr (12, MF ad 0 v3 0 (-1) v6 v7 v8 v9 vN 1 v36 v37 v38 v39 v40 v41 0 0 0 0 0)), ((ad 11), .inl (cI, 2, .inl fR)), ((ad 12), .inl (cI, 2, .inl fD)), ((ad 13), .inl (cI, 2, .inl fT)), ((ad 15), .inl (cI, 2, .inl fW)), ((ad 42), .inl (cI, 32, .inl (upd g_7 (Int32.toNatClampNeg 25) (-1)))), ((ad 70), .inl (cZ, 3, .inl fB))] := hD
      generalize eg_10 : upd g_7 (Int32.toNatClampNeg 25) (-1) = g_10 at hP hD
      have g_10_30 : g_10 30 = 0 := by rw [← eg_10]; exact (pk_un (by decide)).trans g_7_30
      have g_10_31 : g_10 31 = 0 := by rw [← eg_10]; exact (pk_un (by decide)).trans g_7_31
      clear eg_10
      refine lv_iinc (v := 2) (lv' := [(1, .int 2), (0, .ref a0)]) hx hb dX12_startAnew_123 hl (k := 0) rfl (by decide) (by decide) rfl (fun ls hl => ?_)
      refine lv_goto (tgt := 107) hx hb dX12_startAnew_126 (by decide) ?_
      refine lv_iload_n hx hb dX12_startAnew_107 rfl (lv_at hl 0 rfl) ?_
      refine lv_bipush (v := 6) hx hb dX12_startAnew_108 (by decide) ?_
      refine lv_icmp_ge (tgt := 129) hx hb dX12_startAnew_110 (by decide) (fun c_11 => absurd c_11 (by decide)) (fun _ => ?_)
      refine lv_aload_n hx hb dX12_startAnew_113 rfl (lv_at hl 1 rfl) ?_
      refine va_get (D := D) (ci := 12) (v := .ref (ad 42)) (C := RX12) (T := TX12) (N := 71) hx hb hts iw_X12_startAnew_X12 hown hK hP 0 rfl rfl 42 (by decide) (hts (.fieldLink RX12 95 "SoldHouseModel" "all" "[I") (List.mem_of_getElem? (i := 1) rfl)) (fun _ h9 => h9) rfl dX12_startAnew_114 ?_
      refine lv_bipush (v := 24) hx hb dX12_startAnew_117 (by decide) ?_
      refine lv_iload_n hx hb dX12_startAnew_119 rfl (lv_at hl 0 rfl) ?_
      refine lv_iadd hx hb dX12_startAnew_120 ?_
      refine lv_topi (fun y_12 ey_12 => ?_)
      obtain rfl : y_12 = 26 := ey_12.trans (by decide)
      refine lv_iconst (v := (-1)) hx hb dX12_startAnew_121 (by decide) ?_
      refine va_iast hx hb hK hP hD hS 5 0 rfl rfl (show vp_in 26 32 from (by decide : ¬ ((26 : Int32) < 0 ∨ 32 ≤ Int32.toNatClampNeg 26))) dX12_startAnew_122 (fun H locs hP hD hS => ?_)
      replace hP : va_P D classes [(a0, .inr (12, MF ad 0 v3 0 (-1) v6 v7 v8 v9 vN 1 v36 v37 v38 v39 v40 v41 0 0 0 0 0)), ((ad 11), .inl (cI, 2, .inl fR)), ((ad 12), .inl (cI, 2, .inl fD)), ((ad 13), .inl (cI, 2, .inl fT)), ((ad 15), .inl (cI, 2, .inl fW)), ((ad 42), .inl (cI, 32, .inl (upd g_10 (Int32.toNatClampNeg 26) (-1)))), ((ad 70), .inl (cZ, 3, .inl fB))] H := hP
      replace hD : va_D A [(a0, .inr (12, MF ad 0 v3 0 (-1) v6 v7 v8 v9 vN 1 v36 v37 v38 v39 v40 v41 0 0 0 0 0)), ((ad 11), .inl (cI, 2, .inl fR)), ((ad 12), .inl (cI, 2, .inl fD)), ((ad 13), .inl (cI, 2, .inl fT)), ((ad 15), .inl (cI, 2, .inl fW)), ((ad 42), .inl (cI, 32, .inl (upd g_10 (Int32.toNatClampNeg 26) (-1)))), ((ad 70), .inl (cZ, 3, .inl fB))] := hD
      generalize eg_13 : upd g_10 (Int32.toNatClampNeg 26) (-1) = g_13 at hP hD
      have g_13_30 : g_13 30 = 0 := by rw [← eg_13]; exact (pk_un (by decide)).trans g_10_30
      have g_13_31 : g_13 31 = 0 := by rw [← eg_13]; exact (pk_un (by decide)).trans g_10_31
      clear eg_13
      refine lv_iinc (v := 3) (lv' := [(1, .int 3), (0, .ref a0)]) hx hb dX12_startAnew_123 hl (k := 0) rfl (by decide) (by decide) rfl (fun ls hl => ?_)
      refine lv_goto (tgt := 107) hx hb dX12_startAnew_126 (by decide) ?_
      refine lv_iload_n hx hb dX12_startAnew_107 rfl (lv_at hl 0 rfl) ?_
      refine lv_bipush (v := 6) hx hb dX12_startAnew_108 (by decide) ?_
      refine lv_icmp_ge (tgt := 129) hx hb dX12_startAnew_110 (by decide) (fun c_14 => absurd c_14 (by decide)) (fun _ => ?_)
      refine lv_aload_n hx hb dX12_startAnew_113 rfl (lv_at hl 1 rfl) ?_
      refine va_get (D := D) (ci := 12) (v := .ref (ad 42)) (C := RX12) (T := TX12) (N := 71) hx hb hts iw_X12_startAnew_X12 hown hK hP 0 rfl rfl 42 (by decide) (hts (.fieldLink RX12 95 "SoldHouseModel" "all" "[I") (List.mem_of_getElem? (i := 1) rfl)) (fun _ h9 => h9) rfl dX12_startAnew_114 ?_
      refine lv_bipush (v := 24) hx hb dX12_startAnew_117 (by decide) ?_
      refine lv_iload_n hx hb dX12_startAnew_119 rfl (lv_at hl 0 rfl) ?_
      refine lv_iadd hx hb dX12_startAnew_120 ?_
      refine lv_topi (fun y_15 ey_15 => ?_)
      obtain rfl : y_15 = 27 := ey_15.trans (by decide)
      refine lv_iconst (v := (-1)) hx hb dX12_startAnew_121 (by decide) ?_
      refine va_iast hx hb hK hP hD hS 5 0 rfl rfl (show vp_in 27 32 from (by decide : ¬ ((27 : Int32) < 0 ∨ 32 ≤ Int32.toNatClampNeg 27))) dX12_startAnew_122 (fun H locs hP hD hS => ?_)
      replace hP : va_P D classes [(a0, .inr (12, MF ad 0 v3 0 (-1) v6 v7 v8 v9 vN 1 v36 v37 v38 v39 v40 v41 0 0 0 0 0)), ((ad 11), .inl (cI, 2, .inl fR)), ((ad 12), .inl (cI, 2, .inl fD)), ((ad 13), .inl (cI, 2, .inl fT)), ((ad 15), .inl (cI, 2, .inl fW)), ((ad 42), .inl (cI, 32, .inl (upd g_13 (Int32.toNatClampNeg 27) (-1)))), ((ad 70), .inl (cZ, 3, .inl fB))] H := hP
      replace hD : va_D A [(a0, .inr (12, MF ad 0 v3 0 (-1) v6 v7 v8 v9 vN 1 v36 v37 v38 v39 v40 v41 0 0 0 0 0)), ((ad 11), .inl (cI, 2, .inl fR)), ((ad 12), .inl (cI, 2, .inl fD)), ((ad 13), .inl (cI, 2, .inl fT)), ((ad 15), .inl (cI, 2, .inl fW)), ((ad 42), .inl (cI, 32, .inl (upd g_13 (Int32.toNatClampNeg 27) (-1)))), ((ad 70), .inl (cZ, 3, .inl fB))] := hD
      generalize eg_16 : upd g_13 (Int32.toNatClampNeg 27) (-1) = g_16 at hP hD
      have g_16_30 : g_16 30 = 0 := by rw [← eg_16]; exact (pk_un (by decide)).trans g_13_30
      have g_16_31 : g_16 31 = 0 := by rw [← eg_16]; exact (pk_un (by decide)).trans g_13_31
      clear eg_16
      refine lv_iinc (v := 4) (lv' := [(1, .int 4), (0, .ref a0)]) hx hb dX12_startAnew_123 hl (k := 0) rfl (by decide) (by decide) rfl (fun ls hl => ?_)
      refine lv_goto (tgt := 107) hx hb dX12_startAnew_126 (by decide) ?_
      refine lv_iload_n hx hb dX12_startAnew_107 rfl (lv_at hl 0 rfl) ?_
      refine lv_bipush (v := 6) hx hb dX12_startAnew_108 (by decide) ?_
      refine lv_icmp_ge (tgt := 129) hx hb dX12_startAnew_110 (by decide) (fun c_17 => absurd c_17 (by decide)) (fun _ => ?_)
      refine lv_aload_n hx hb dX12_startAnew_113 rfl (lv_at hl 1 rfl) ?_
      refine va_get (D := D) (ci := 12) (v := .ref (ad 42)) (C := RX12) (T := TX12) (N := 71) hx hb hts iw_X12_startAnew_X12 hown hK hP 0 rfl rfl 42 (by decide) (hts (.fieldLink RX12 95 "SoldHouseModel" "all" "[I") (List.mem_of_getElem? (i := 1) rfl)) (fun _ h9 => h9) rfl dX12_startAnew_114 ?_
      refine lv_bipush (v := 24) hx hb dX12_startAnew_117 (by decide) ?_
      refine lv_iload_n hx hb dX12_startAnew_119 rfl (lv_at hl 0 rfl) ?_
      refine lv_iadd hx hb dX12_startAnew_120 ?_
      refine lv_topi (fun y_18 ey_18 => ?_)
      obtain rfl : y_18 = 28 := ey_18.trans (by decide)
      refine lv_iconst (v := (-1)) hx hb dX12_startAnew_121 (by decide) ?_
      refine va_iast hx hb hK hP hD hS 5 0 rfl rfl (show vp_in 28 32 from (by decide : ¬ ((28 : Int32) < 0 ∨ 32 ≤ Int32.toNatClampNeg 28))) dX12_startAnew_122 (fun H locs hP hD hS => ?_)
      replace hP : va_P D classes [(a0, .inr (12, MF ad 0 v3 0 (-1) v6 v7 v8 v9 vN 1 v36 v37 v38 v39 v40 v41 0 0 0 0 0)), ((ad 11), .inl (cI, 2, .inl fR)), ((ad 12), .inl (cI, 2, .inl fD)), ((ad 13), .inl (cI, 2, .inl fT)), ((ad 15), .inl (cI, 2, .inl fW)), ((ad 42), .inl (cI, 32, .inl (upd g_16 (Int32.toNatClampNeg 28) (-1)))), ((ad 70), .inl (cZ, 3, .inl fB))] H := hP
      replace hD : va_D A [(a0, .inr (12, MF ad 0 v3 0 (-1) v6 v7 v8 v9 vN 1 v36 v37 v38 v39 v40 v41 0 0 0 0 0)), ((ad 11), .inl (cI, 2, .inl fR)), ((ad 12), .inl (cI, 2, .inl fD)), ((ad 13), .inl (cI, 2, .inl fT)), ((ad 15), .inl (cI, 2, .inl fW)), ((ad 42), .inl (cI, 32, .inl (upd g_16 (Int32.toNatClampNeg 28) (-1)))), ((ad 70), .inl (cZ, 3, .inl fB))] := hD
      generalize eg_19 : upd g_16 (Int32.toNatClampNeg 28) (-1) = g_19 at hP hD
      have g_19_30 : g_19 30 = 0 := by rw [← eg_19]; exact (pk_un (by decide)).trans g_16_30
      have g_19_31 : g_19 31 = 0 := by rw [← eg_19]; exact (pk_un (by decide)).trans g_16_31
      clear eg_19
      refine lv_iinc (v := 5) (lv' := [(1, .int 5), (0, .ref a0)]) hx hb dX12_startAnew_123 hl (k := 0) rfl (by decide) (by decide) rfl (fun ls hl => ?_)
      refine lv_goto (tgt := 107) hx hb dX12_startAnew_126 (by decide) ?_
      refine lv_iload_n hx hb dX12_startAnew_107 rfl (lv_at hl 0 rfl) ?_
      refine lv_bipush (v := 6) hx hb dX12_startAnew_108 (by decide) ?_
      refine lv_icmp_ge (tgt := 129) hx hb dX12_startAnew_110 (by decide) (fun c_20 => absurd c_20 (by decide)) (fun _ => ?_)
      refine lv_aload_n hx hb dX12_startAnew_113 rfl (lv_at hl 1 rfl) ?_
      refine va_get (D := D) (ci := 12) (v := .ref (ad 42)) (C := RX12) (T := TX12) (N := 71) hx hb hts iw_X12_startAnew_X12 hown hK hP 0 rfl rfl 42 (by decide) (hts (.fieldLink RX12 95 "SoldHouseModel" "all" "[I") (List.mem_of_getElem? (i := 1) rfl)) (fun _ h9 => h9) rfl dX12_startAnew_114 ?_
      refine lv_bipush (v := 24) hx hb dX12_startAnew_117 (by decide) ?_
      refine lv_iload_n hx hb dX12_startAnew_119 rfl (lv_at hl 0 rfl) ?_
      refine lv_iadd hx hb dX12_startAnew_120 ?_
      refine lv_topi (fun y_21 ey_21 => ?_)
      obtain rfl : y_21 = 29 := ey_21.trans (by decide)
      refine lv_iconst (v := (-1)) hx hb dX12_startAnew_121 (by decide) ?_
      refine va_iast hx hb hK hP hD hS 5 0 rfl rfl (show vp_in 29 32 from (by decide : ¬ ((29 : Int32) < 0 ∨ 32 ≤ Int32.toNatClampNeg 29))) dX12_startAnew_122 (fun H locs hP hD hS => ?_)
      replace hP : va_P D classes [(a0, .inr (12, MF ad 0 v3 0 (-1) v6 v7 v8 v9 vN 1 v36 v37 v38 v39 v40 v41 0 0 0 0 0)), ((ad 11), .inl (cI, 2, .inl fR)), ((ad 12), .inl (cI, 2, .inl fD)), ((ad 13), .inl (cI, 2, .inl fT)), ((ad 15), .inl (cI, 2, .inl fW)), ((ad 42), .inl (cI, 32, .inl (upd g_19 (Int32.toNatClampNeg 29) (-1)))), ((ad 70), .inl (cZ, 3, .inl fB))] H := hP
      replace hD : va_D A [(a0, .inr (12, MF ad 0 v3 0 (-1) v6 v7 v8 v9 vN 1 v36 v37 v38 v39 v40 v41 0 0 0 0 0)), ((ad 11), .inl (cI, 2, .inl fR)), ((ad 12), .inl (cI, 2, .inl fD)), ((ad 13), .inl (cI, 2, .inl fT)), ((ad 15), .inl (cI, 2, .inl fW)), ((ad 42), .inl (cI, 32, .inl (upd g_19 (Int32.toNatClampNeg 29) (-1)))), ((ad 70), .inl (cZ, 3, .inl fB))] := hD
      generalize eg_22 : upd g_19 (Int32.toNatClampNeg 29) (-1) = g_22 at hP hD
      have g_22_30 : g_22 30 = 0 := by rw [← eg_22]; exact (pk_un (by decide)).trans g_19_30
      have g_22_31 : g_22 31 = 0 := by rw [← eg_22]; exact (pk_un (by decide)).trans g_19_31
      clear eg_22
      refine lv_iinc (v := 6) (lv' := [(1, .int 6), (0, .ref a0)]) hx hb dX12_startAnew_123 hl (k := 0) rfl (by decide) (by decide) rfl (fun ls hl => ?_)
      refine lv_goto (tgt := 107) hx hb dX12_startAnew_126 (by decide) ?_
      refine lv_iload_n hx hb dX12_startAnew_107 rfl (lv_at hl 0 rfl) ?_
      refine lv_bipush (v := 6) hx hb dX12_startAnew_108 (by decide) ?_
      refine lv_icmp_ge (tgt := 129) hx hb dX12_startAnew_110 (by decide) (fun _ => ?_) (fun c_23 => absurd (by decide) c_23)
      refine lv_aload_n hx hb dX12_startAnew_129 rfl (lv_at hl 1 rfl) ?_
      refine va_get (D := D) (ci := 12) (v := .ref (ad 42)) (C := RX12) (T := TX12) (N := 71) hx hb hts iw_X12_startAnew_X12 hown hK hP 0 rfl rfl 42 (by decide) (hts (.fieldLink RX12 95 "SoldHouseModel" "all" "[I") (List.mem_of_getElem? (i := 1) rfl)) (fun _ h9 => h9) rfl dX12_startAnew_130 ?_
      refine lv_bipush (v := 31) hx hb dX12_startAnew_133 (by decide) ?_
      refine lv_aload_n hx hb dX12_startAnew_135 rfl (lv_at hl 1 rfl) ?_
      refine va_get (D := D) (ci := 12) (v := .ref (ad 15)) (C := RX12) (T := TX12) (N := 71) hx hb hts iw_X12_startAnew_X12 hown hK hP 0 rfl rfl 15 (by decide) (hts (.fieldLink RX12 33 "SoldHouseModel" "draw" "[I") (List.mem_of_getElem? (i := 6) rfl)) (fun _ h9 => h9) rfl dX12_startAnew_136 ?_
      refine lv_aload_n hx hb dX12_startAnew_139 rfl (lv_at hl 1 rfl) ?_
      refine va_get (D := D) (ci := 12) (v := .int 1) (C := RX12) (T := TX12) (N := 71) hx hb hts iw_X12_startAnew_X12 hown hK hP 0 rfl rfl 35 (by decide) (hts (.fieldLink RX12 280 "SoldHouseModel" "bank" "I") (List.mem_of_getElem? (i := 3) rfl)) (fun _ h9 => h9) rfl dX12_startAnew_140 ?_
      refine va_iald hx hb hK hP 4 0 rfl rfl (show vp_in 1 2 from (by decide : ¬ ((1 : Int32) < 0 ∨ 2 ≤ Int32.toNatClampNeg 1))) dX12_startAnew_143 ?_
      refine lv_topi (fun y_24 ey_24 => ?_)
      obtain rfl : y_24 = 0 := ey_24.trans hf_fW_1
      refine va_iast hx hb hK hP hD hS 5 0 rfl rfl (show vp_in 31 32 from (by decide : ¬ ((31 : Int32) < 0 ∨ 32 ≤ Int32.toNatClampNeg 31))) dX12_startAnew_144 (fun H locs hP hD hS => ?_)
      replace hP : va_P D classes [(a0, .inr (12, MF ad 0 v3 0 (-1) v6 v7 v8 v9 vN 1 v36 v37 v38 v39 v40 v41 0 0 0 0 0)), ((ad 11), .inl (cI, 2, .inl fR)), ((ad 12), .inl (cI, 2, .inl fD)), ((ad 13), .inl (cI, 2, .inl fT)), ((ad 15), .inl (cI, 2, .inl fW)), ((ad 42), .inl (cI, 32, .inl (upd g_22 (Int32.toNatClampNeg 31) 0))), ((ad 70), .inl (cZ, 3, .inl fB))] H := hP
      replace hD : va_D A [(a0, .inr (12, MF ad 0 v3 0 (-1) v6 v7 v8 v9 vN 1 v36 v37 v38 v39 v40 v41 0 0 0 0 0)), ((ad 11), .inl (cI, 2, .inl fR)), ((ad 12), .inl (cI, 2, .inl fD)), ((ad 13), .inl (cI, 2, .inl fT)), ((ad 15), .inl (cI, 2, .inl fW)), ((ad 42), .inl (cI, 32, .inl (upd g_22 (Int32.toNatClampNeg 31) 0))), ((ad 70), .inl (cZ, 3, .inl fB))] := hD
      generalize eg_25 : upd g_22 (Int32.toNatClampNeg 31) 0 = g_25 at hP hD
      have g_25_30 : g_25 30 = 0 := by rw [← eg_25]; exact (pk_un (by decide)).trans g_22_30
      have g_25_31 : g_25 31 = 0 := by rw [← eg_25]; exact pk_us
      clear eg_25
      refine lv_aload_n hx hb dX12_startAnew_145 rfl (lv_at hl 1 rfl) ?_
      have hPc := hP.sub (ws' := [(a0, .inr (12, MF ad 0 v3 0 (-1) v6 v7 v8 v9 vN 1 v36 v37 v38 v39 v40 v41 0 0 0 0 0)), ((ad 11), .inl (cI, 2, .inl fR)), ((ad 12), .inl (cI, 2, .inl fD))]) [0, 1, 2] rfl
      refine va_csv (va_runV (As := []) (rest := []) ⟨hx, hb, hml, hown, hts⟩ (m_layTable1 l D cI cB cL cZ a0 ad v3 v6 v7 v8 v9 v36 v37 v38 v39 v40 v41 vN fR fD hf_fR_1 hf_fD_1) (cwV 0 hts gX12_startAnew_X12_layTable rfl rfl rfl (by decide +kernel) ⟨Nat.le_of_ble_eq_true rfl, Nat.le_of_ble_eq_true rfl⟩) ⟨xr_blind, va_recv hK hPc (ci := 12) (q0 := 0) rfl rfl, fun U hU hW => xr_mk hU hW hPc hK⟩ rfl rfl hl.1 rfl (lv_room (Nat.le_of_ble_eq_true rfl)) dX12_startAnew_146 ⟨Nat.le_of_ble_eq_true rfl, Nat.le_of_ble_eq_true rfl⟩).run (fun _ => ?_)
      clear hPc
      refine lv_aload_n hx hb dX12_startAnew_149 rfl (lv_at hl 1 rfl) ?_
      refine lv_iconst (v := 0) hx hb dX12_startAnew_150 (by decide) ?_
      refine va_put (D := D) (ci := 12) (v := .int 0) (ty := tyX12 46) (C := RX12) (T := TX12) (N := 71) hx hb hts iw_X12_startAnew_X12 tyX12 tyX12_ok nmX12 hown hK hP hD hS 0 rfl rfl 46 (by decide) (hts (.fieldLink RX12 409 "SoldHouseModel" "acts" "I") (List.mem_of_getElem? (i := 7) rfl)) (fun _ h9 => h9) rfl (by decide +kernel) rfl rfl (Nat.le_of_ble_eq_true rfl) dX12_startAnew_151 (fun H locs hP hD hS => ?_)
      replace hP : va_P D classes [(a0, .inr (12, MF ad 0 v3 0 (-1) v6 v7 v8 v9 vN 1 v36 v37 v38 v39 v40 v41 0 0 0 0 0)), ((ad 11), .inl (cI, 2, .inl fR)), ((ad 12), .inl (cI, 2, .inl fD)), ((ad 13), .inl (cI, 2, .inl fT)), ((ad 15), .inl (cI, 2, .inl fW)), ((ad 42), .inl (cI, 32, .inl g_25)), ((ad 70), .inl (cZ, 3, .inl fB))] H := hP
      replace hD : va_D A [(a0, .inr (12, MF ad 0 v3 0 (-1) v6 v7 v8 v9 vN 1 v36 v37 v38 v39 v40 v41 0 0 0 0 0)), ((ad 11), .inl (cI, 2, .inl fR)), ((ad 12), .inl (cI, 2, .inl fD)), ((ad 13), .inl (cI, 2, .inl fT)), ((ad 15), .inl (cI, 2, .inl fW)), ((ad 42), .inl (cI, 32, .inl g_25)), ((ad 70), .inl (cZ, 3, .inl fB))] := hD
      refine lv_aload_n hx hb dX12_startAnew_154 rfl (lv_at hl 1 rfl) ?_
      refine lv_iconst (v := 0) hx hb dX12_startAnew_155 (by decide) ?_
      refine va_put (D := D) (ci := 12) (v := .int 0) (ty := tyX12 47) (C := RX12) (T := TX12) (N := 71) hx hb hts iw_X12_startAnew_X12 tyX12 tyX12_ok nmX12 hown hK hP hD hS 0 rfl rfl 47 (by decide) (hts (.fieldLink RX12 412 "SoldHouseModel" "undone" "I") (List.mem_of_getElem? (i := 8) rfl)) (fun _ h9 => h9) rfl (by decide +kernel) rfl rfl (Nat.le_of_ble_eq_true rfl) dX12_startAnew_156 (fun H locs hP hD hS => ?_)
      replace hP : va_P D classes [(a0, .inr (12, MF ad 0 v3 0 (-1) v6 v7 v8 v9 vN 1 v36 v37 v38 v39 v40 v41 0 0 0 0 0)), ((ad 11), .inl (cI, 2, .inl fR)), ((ad 12), .inl (cI, 2, .inl fD)), ((ad 13), .inl (cI, 2, .inl fT)), ((ad 15), .inl (cI, 2, .inl fW)), ((ad 42), .inl (cI, 32, .inl g_25)), ((ad 70), .inl (cZ, 3, .inl fB))] H := hP
      replace hD : va_D A [(a0, .inr (12, MF ad 0 v3 0 (-1) v6 v7 v8 v9 vN 1 v36 v37 v38 v39 v40 v41 0 0 0 0 0)), ((ad 11), .inl (cI, 2, .inl fR)), ((ad 12), .inl (cI, 2, .inl fD)), ((ad 13), .inl (cI, 2, .inl fT)), ((ad 15), .inl (cI, 2, .inl fW)), ((ad 42), .inl (cI, 32, .inl g_25)), ((ad 70), .inl (cZ, 3, .inl fB))] := hD
      refine lv_aload_n hx hb dX12_startAnew_159 rfl (lv_at hl 1 rfl) ?_
      refine lv_iconst (v := 0) hx hb dX12_startAnew_160 (by decide) ?_
      refine va_put (D := D) (ci := 12) (v := .int 0) (ty := tyX12 67) (C := RX12) (T := TX12) (N := 71) hx hb hts iw_X12_startAnew_X12 tyX12 tyX12_ok nmX12 hown hK hP hD hS 0 rfl rfl 67 (by decide) (hts (.fieldLink RX12 415 "SoldHouseModel" "heards" "I") (List.mem_of_getElem? (i := 9) rfl)) (fun _ h9 => h9) rfl (by decide +kernel) rfl rfl (Nat.le_of_ble_eq_true rfl) dX12_startAnew_161 (fun H locs hP hD hS => ?_)
      replace hP : va_P D classes [(a0, .inr (12, MF ad 0 v3 0 (-1) v6 v7 v8 v9 vN 1 v36 v37 v38 v39 v40 v41 0 0 0 0 0)), ((ad 11), .inl (cI, 2, .inl fR)), ((ad 12), .inl (cI, 2, .inl fD)), ((ad 13), .inl (cI, 2, .inl fT)), ((ad 15), .inl (cI, 2, .inl fW)), ((ad 42), .inl (cI, 32, .inl g_25)), ((ad 70), .inl (cZ, 3, .inl fB))] H := hP
      replace hD : va_D A [(a0, .inr (12, MF ad 0 v3 0 (-1) v6 v7 v8 v9 vN 1 v36 v37 v38 v39 v40 v41 0 0 0 0 0)), ((ad 11), .inl (cI, 2, .inl fR)), ((ad 12), .inl (cI, 2, .inl fD)), ((ad 13), .inl (cI, 2, .inl fT)), ((ad 15), .inl (cI, 2, .inl fW)), ((ad 42), .inl (cI, 32, .inl g_25)), ((ad 70), .inl (cZ, 3, .inl fB))] := hD
      refine lv_aload_n hx hb dX12_startAnew_164 rfl (lv_at hl 1 rfl) ?_
      refine lv_iconst (v := 0) hx hb dX12_startAnew_165 (by decide) ?_
      refine va_put (D := D) (ci := 12) (v := .int 0) (ty := tyX12 51) (C := RX12) (T := TX12) (N := 71) hx hb hts iw_X12_startAnew_X12 tyX12 tyX12_ok nmX12 hown hK hP hD hS 0 rfl rfl 51 (by decide) (hts (.fieldLink RX12 418 "SoldHouseModel" "laid" "I") (List.mem_of_getElem? (i := 10) rfl)) (fun _ h9 => h9) rfl (by decide +kernel) rfl rfl (Nat.le_of_ble_eq_true rfl) dX12_startAnew_166 (fun H locs hP hD hS => ?_)
      replace hP : va_P D classes [(a0, .inr (12, MF ad 0 v3 0 (-1) v6 v7 v8 v9 vN 1 v36 v37 v38 v39 v40 v41 0 0 0 0 0)), ((ad 11), .inl (cI, 2, .inl fR)), ((ad 12), .inl (cI, 2, .inl fD)), ((ad 13), .inl (cI, 2, .inl fT)), ((ad 15), .inl (cI, 2, .inl fW)), ((ad 42), .inl (cI, 32, .inl g_25)), ((ad 70), .inl (cZ, 3, .inl fB))] H := hP
      replace hD : va_D A [(a0, .inr (12, MF ad 0 v3 0 (-1) v6 v7 v8 v9 vN 1 v36 v37 v38 v39 v40 v41 0 0 0 0 0)), ((ad 11), .inl (cI, 2, .inl fR)), ((ad 12), .inl (cI, 2, .inl fD)), ((ad 13), .inl (cI, 2, .inl fT)), ((ad 15), .inl (cI, 2, .inl fW)), ((ad 42), .inl (cI, 32, .inl g_25)), ((ad 70), .inl (cZ, 3, .inl fB))] := hD
      refine lv_iconst (v := 0) hx hb dX12_startAnew_169 (by decide) ?_
      refine lv_istore_n (lv' := [(1, .int 0), (0, .ref a0)]) hx hb dX12_startAnew_170 rfl hl (by decide) rfl (fun ls hl => ?_)
      refine lv_iload_n hx hb dX12_startAnew_171 rfl (lv_at hl 0 rfl) ?_
      refine lv_iconst (v := 3) hx hb dX12_startAnew_172 (by decide) ?_
      refine lv_icmp_ge (tgt := 189) hx hb dX12_startAnew_173 (by decide) (fun c_27 => absurd c_27 (by decide)) (fun _ => ?_)
      refine lv_aload_n hx hb dX12_startAnew_176 rfl (lv_at hl 1 rfl) ?_
      refine va_get (D := D) (ci := 12) (v := .ref (ad 70)) (C := RX12) (T := TX12) (N := 71) hx hb hts iw_X12_startAnew_X12 hown hK hP 0 rfl rfl 70 (by decide) (hts (.fieldLink RX12 164 "SoldHouseModel" "isBoxed" "[Z") (List.mem_of_getElem? (i := 11) rfl)) (fun _ h9 => h9) rfl dX12_startAnew_177 ?_
      refine lv_iload_n hx hb dX12_startAnew_180 rfl (lv_at hl 0 rfl) ?_
      refine lv_iconst (v := 0) hx hb dX12_startAnew_181 (by decide) ?_
      refine va_zast hx hb hK hP hD hS 6 3 rfl rfl (show vp_in 0 3 from (by decide : ¬ ((0 : Int32) < 0 ∨ 3 ≤ Int32.toNatClampNeg 0))) dX12_startAnew_182 (fun H locs hP hD hS => ?_)
      replace hP : va_P D classes [(a0, .inr (12, MF ad 0 v3 0 (-1) v6 v7 v8 v9 vN 1 v36 v37 v38 v39 v40 v41 0 0 0 0 0)), ((ad 11), .inl (cI, 2, .inl fR)), ((ad 12), .inl (cI, 2, .inl fD)), ((ad 13), .inl (cI, 2, .inl fT)), ((ad 15), .inl (cI, 2, .inl fW)), ((ad 42), .inl (cI, 32, .inl g_25)), ((ad 70), .inl (cZ, 3, .inl (upd fB (Int32.toNatClampNeg 0) (vp_nar .boolean 0))))] H := hP
      replace hD : va_D A [(a0, .inr (12, MF ad 0 v3 0 (-1) v6 v7 v8 v9 vN 1 v36 v37 v38 v39 v40 v41 0 0 0 0 0)), ((ad 11), .inl (cI, 2, .inl fR)), ((ad 12), .inl (cI, 2, .inl fD)), ((ad 13), .inl (cI, 2, .inl fT)), ((ad 15), .inl (cI, 2, .inl fW)), ((ad 42), .inl (cI, 32, .inl g_25)), ((ad 70), .inl (cZ, 3, .inl (upd fB (Int32.toNatClampNeg 0) (vp_nar .boolean 0))))] := hD
      generalize eg_28 : upd fB (Int32.toNatClampNeg 0) (vp_nar .boolean 0) = g_28 at hP hD
      have g_28_0 : g_28 0 = 0 := by rw [← eg_28]; exact pk_us.trans (by decide)
      clear eg_28
      refine lv_iinc (v := 1) (lv' := [(1, .int 1), (0, .ref a0)]) hx hb dX12_startAnew_183 hl (k := 0) rfl (by decide) (by decide) rfl (fun ls hl => ?_)
      refine lv_goto (tgt := 171) hx hb dX12_startAnew_186 (by decide) ?_
      refine lv_iload_n hx hb dX12_startAnew_171 rfl (lv_at hl 0 rfl) ?_
      refine lv_iconst (v := 3) hx hb dX12_startAnew_172 (by decide) ?_
      refine lv_icmp_ge (tgt := 189) hx hb dX12_startAnew_173 (by decide) (fun c_29 => absurd c_29 (by decide)) (fun _ => ?_)
      refine lv_aload_n hx hb dX12_startAnew_176 rfl (lv_at hl 1 rfl) ?_
      refine va_get (D := D) (ci := 12) (v := .ref (ad 70)) (C := RX12) (T := TX12) (N := 71) hx hb hts iw_X12_startAnew_X12 hown hK hP 0 rfl rfl 70 (by decide) (hts (.fieldLink RX12 164 "SoldHouseModel" "isBoxed" "[Z") (List.mem_of_getElem? (i := 11) rfl)) (fun _ h9 => h9) rfl dX12_startAnew_177 ?_
      refine lv_iload_n hx hb dX12_startAnew_180 rfl (lv_at hl 0 rfl) ?_
      refine lv_iconst (v := 0) hx hb dX12_startAnew_181 (by decide) ?_
      refine va_zast hx hb hK hP hD hS 6 3 rfl rfl (show vp_in 1 3 from (by decide : ¬ ((1 : Int32) < 0 ∨ 3 ≤ Int32.toNatClampNeg 1))) dX12_startAnew_182 (fun H locs hP hD hS => ?_)
      replace hP : va_P D classes [(a0, .inr (12, MF ad 0 v3 0 (-1) v6 v7 v8 v9 vN 1 v36 v37 v38 v39 v40 v41 0 0 0 0 0)), ((ad 11), .inl (cI, 2, .inl fR)), ((ad 12), .inl (cI, 2, .inl fD)), ((ad 13), .inl (cI, 2, .inl fT)), ((ad 15), .inl (cI, 2, .inl fW)), ((ad 42), .inl (cI, 32, .inl g_25)), ((ad 70), .inl (cZ, 3, .inl (upd g_28 (Int32.toNatClampNeg 1) (vp_nar .boolean 0))))] H := hP
      replace hD : va_D A [(a0, .inr (12, MF ad 0 v3 0 (-1) v6 v7 v8 v9 vN 1 v36 v37 v38 v39 v40 v41 0 0 0 0 0)), ((ad 11), .inl (cI, 2, .inl fR)), ((ad 12), .inl (cI, 2, .inl fD)), ((ad 13), .inl (cI, 2, .inl fT)), ((ad 15), .inl (cI, 2, .inl fW)), ((ad 42), .inl (cI, 32, .inl g_25)), ((ad 70), .inl (cZ, 3, .inl (upd g_28 (Int32.toNatClampNeg 1) (vp_nar .boolean 0))))] := hD
      generalize eg_30 : upd g_28 (Int32.toNatClampNeg 1) (vp_nar .boolean 0) = g_30 at hP hD
      have g_30_0 : g_30 0 = 0 := by rw [← eg_30]; exact (pk_un (by decide)).trans g_28_0
      have g_30_1 : g_30 1 = 0 := by rw [← eg_30]; exact pk_us.trans (by decide)
      clear eg_30
      refine lv_iinc (v := 2) (lv' := [(1, .int 2), (0, .ref a0)]) hx hb dX12_startAnew_183 hl (k := 0) rfl (by decide) (by decide) rfl (fun ls hl => ?_)
      refine lv_goto (tgt := 171) hx hb dX12_startAnew_186 (by decide) ?_
      refine lv_iload_n hx hb dX12_startAnew_171 rfl (lv_at hl 0 rfl) ?_
      refine lv_iconst (v := 3) hx hb dX12_startAnew_172 (by decide) ?_
      refine lv_icmp_ge (tgt := 189) hx hb dX12_startAnew_173 (by decide) (fun c_31 => absurd c_31 (by decide)) (fun _ => ?_)
      refine lv_aload_n hx hb dX12_startAnew_176 rfl (lv_at hl 1 rfl) ?_
      refine va_get (D := D) (ci := 12) (v := .ref (ad 70)) (C := RX12) (T := TX12) (N := 71) hx hb hts iw_X12_startAnew_X12 hown hK hP 0 rfl rfl 70 (by decide) (hts (.fieldLink RX12 164 "SoldHouseModel" "isBoxed" "[Z") (List.mem_of_getElem? (i := 11) rfl)) (fun _ h9 => h9) rfl dX12_startAnew_177 ?_
      refine lv_iload_n hx hb dX12_startAnew_180 rfl (lv_at hl 0 rfl) ?_
      refine lv_iconst (v := 0) hx hb dX12_startAnew_181 (by decide) ?_
      refine va_zast hx hb hK hP hD hS 6 3 rfl rfl (show vp_in 2 3 from (by decide : ¬ ((2 : Int32) < 0 ∨ 3 ≤ Int32.toNatClampNeg 2))) dX12_startAnew_182 (fun H locs hP hD hS => ?_)
      replace hP : va_P D classes [(a0, .inr (12, MF ad 0 v3 0 (-1) v6 v7 v8 v9 vN 1 v36 v37 v38 v39 v40 v41 0 0 0 0 0)), ((ad 11), .inl (cI, 2, .inl fR)), ((ad 12), .inl (cI, 2, .inl fD)), ((ad 13), .inl (cI, 2, .inl fT)), ((ad 15), .inl (cI, 2, .inl fW)), ((ad 42), .inl (cI, 32, .inl g_25)), ((ad 70), .inl (cZ, 3, .inl (upd g_30 (Int32.toNatClampNeg 2) (vp_nar .boolean 0))))] H := hP
      replace hD : va_D A [(a0, .inr (12, MF ad 0 v3 0 (-1) v6 v7 v8 v9 vN 1 v36 v37 v38 v39 v40 v41 0 0 0 0 0)), ((ad 11), .inl (cI, 2, .inl fR)), ((ad 12), .inl (cI, 2, .inl fD)), ((ad 13), .inl (cI, 2, .inl fT)), ((ad 15), .inl (cI, 2, .inl fW)), ((ad 42), .inl (cI, 32, .inl g_25)), ((ad 70), .inl (cZ, 3, .inl (upd g_30 (Int32.toNatClampNeg 2) (vp_nar .boolean 0))))] := hD
      generalize eg_32 : upd g_30 (Int32.toNatClampNeg 2) (vp_nar .boolean 0) = g_32 at hP hD
      have g_32_0 : g_32 0 = 0 := by rw [← eg_32]; exact (pk_un (by decide)).trans g_30_0
      have g_32_1 : g_32 1 = 0 := by rw [← eg_32]; exact (pk_un (by decide)).trans g_30_1
      have g_32_2 : g_32 2 = 0 := by rw [← eg_32]; exact pk_us.trans (by decide)
      clear eg_32
      refine lv_iinc (v := 3) (lv' := [(1, .int 3), (0, .ref a0)]) hx hb dX12_startAnew_183 hl (k := 0) rfl (by decide) (by decide) rfl (fun ls hl => ?_)
      refine lv_goto (tgt := 171) hx hb dX12_startAnew_186 (by decide) ?_
      refine lv_iload_n hx hb dX12_startAnew_171 rfl (lv_at hl 0 rfl) ?_
      refine lv_iconst (v := 3) hx hb dX12_startAnew_172 (by decide) ?_
      refine lv_icmp_ge (tgt := 189) hx hb dX12_startAnew_173 (by decide) (fun _ => ?_) (fun c_33 => absurd (by decide) c_33)
      have hP9 := hP.sub (ws' := [(a0, .inr (12, MF ad 0 v3 0 (-1) v6 v7 v8 v9 vN 1 v36 v37 v38 v39 v40 v41 0 0 0 0 0)), ((ad 11), .inl (cI, 2, .inl fR)), ((ad 12), .inl (cI, 2, .inl fD)), ((ad 13), .inl (cI, 2, .inl fT)), ((ad 15), .inl (cI, 2, .inl fW)), ((ad 42), .inl (cI, 32, .inl g_25)), ((ad 70), .inl (cZ, 3, .inl g_32))]) [0, 1, 2, 3, 4, 5, 6] rfl
      have hD9 := hD.sub (ws' := [(a0, .inr (12, MF ad 0 v3 0 (-1) v6 v7 v8 v9 vN 1 v36 v37 v38 v39 v40 v41 0 0 0 0 0)), ((ad 11), .inl (cI, 2, .inl fR)), ((ad 12), .inl (cI, 2, .inl fD)), ((ad 13), .inl (cI, 2, .inl fT)), ((ad 15), .inl (cI, 2, .inl fW)), ((ad 42), .inl (cI, 32, .inl g_25)), ((ad 70), .inl (cZ, 3, .inl g_32))]) [0, 1, 2, 3, 4, 5, 6] (by decide) rfl
      refine W.widen (k := 0) (n := 0) (Nat.le_of_ble_eq_true rfl) (Nat.le_of_ble_eq_true rfl) ?_
      exact W.vret hx hb hr (fun t ht hW => ⟨⟨(), rfl, trivial, ⟨g_25, g_32, g_25_30, g_25_31, g_32_0, g_32_1, g_32_2, by rw [ht]; exact hP9, hD9⟩⟩, hS.F ht⟩) hS.2.2 dX12_startAnew_189
    · have hlt_i2 : i2 < 32 := by
        rcases Nat.lt_or_ge i2 32 with q | q
        · exact q
        · exact absurd (nI_le q (by omega)) c_2
      refine lv_aload_n hx hb dX12_startAnew_8 rfl (lv_at hl 1 rfl) ?_
      refine va_get (D := D) (ci := 12) (v := .ref (ad 42)) (C := RX12) (T := TX12) (N := 71) hx hb hts iw_X12_startAnew_X12 hown hK hP 0 rfl rfl 42 (by decide) (hts (.fieldLink RX12 95 "SoldHouseModel" "all" "[I") (List.mem_of_getElem? (i := 1) rfl)) (fun _ h9 => h9) rfl dX12_startAnew_9 ?_
      refine lv_iload_n hx hb dX12_startAnew_12 rfl (lv_at hl 0 rfl) ?_
      refine lv_iconst (v := 0) hx hb dX12_startAnew_13 (by decide) ?_
      refine va_iast hx hb hK hP hD hS 5 0 rfl rfl (vp_in_nI (by omega) (by decide)) dX12_startAnew_14 (fun H locs hP hD hS => ?_)
      replace hP : va_P D classes [(a0, .inr (12, MF ad 0 v3 0 (-1) v6 v7 v8 v9 vN 1 v36 v37 v38 v39 v40 v41 0 0 0 0 0)), ((ad 11), .inl (cI, 2, .inl fR)), ((ad 12), .inl (cI, 2, .inl fD)), ((ad 13), .inl (cI, 2, .inl fT)), ((ad 15), .inl (cI, 2, .inl fW)), ((ad 42), .inl (cI, 32, .inl (upd g_1 (Int32.toNatClampNeg (nI i2)) 0))), ((ad 70), .inl (cZ, 3, .inl fB))] H := hP
      replace hD : va_D A [(a0, .inr (12, MF ad 0 v3 0 (-1) v6 v7 v8 v9 vN 1 v36 v37 v38 v39 v40 v41 0 0 0 0 0)), ((ad 11), .inl (cI, 2, .inl fR)), ((ad 12), .inl (cI, 2, .inl fD)), ((ad 13), .inl (cI, 2, .inl fT)), ((ad 15), .inl (cI, 2, .inl fW)), ((ad 42), .inl (cI, 32, .inl (upd g_1 (Int32.toNatClampNeg (nI i2)) 0))), ((ad 70), .inl (cZ, 3, .inl fB))] := hD
      generalize eg_34 : upd g_1 (Int32.toNatClampNeg (nI i2)) 0 = g_34 at hP hD
      have g_34_30 : g_34 30 = 0 := by rw [← eg_34]; exact zz_upd0 g_1_30
      have g_34_31 : g_34 31 = 0 := by rw [← eg_34]; exact zz_upd0 g_1_31
      clear eg_34
      refine lv_iinc (v := nI (i2 + 1)) (lv' := [(1, .int (nI (i2 + 1))), (0, .ref a0)]) hx hb dX12_startAnew_15 hl (k := 0) rfl (nI_1 i2) (by decide) rfl (fun ls hl => ?_)
      refine lv_goto (tgt := 2) hx hb dX12_startAnew_18 (by decide) ?_
      replace hl : lv_has ls 2 [(1, .int (nI (i2 + 1))), (0, .ref a0)] := lv_sub hl [0, 1] rfl
      apply ih2 (i2 := (i2 + 1)) (H := H) (locs := locs) (ls := ls) (g_1 := (g_34)) <;> first | assumption | omega
set_option maxHeartbeats 4000000 in
set_option maxRecDepth 100000 in
theorem m_sign (l : Launch) (D : va_G) (cI : ClassId) (cB : ClassId) (cL : ClassId) (cZ : ClassId) (a0 : Nat) (ad : Nat → Nat) (v6 : Int32) (v7 : Int32) (v8 : Int32) (v9 : Int32) (v37 : Int32) (v38 : Int32) (v39 : Int32) (v40 : Int32) (v41 : Int32) (vN : Int64) : Met l yX12_sign wsX12_sign ({ frames := 0, cells := 0, slots := 0, locals := 0 }) (xr D [(cI, .int), (cB, .byte), (cL, .long), (cZ, .boolean)] [(a0, .inr (12, MF ad 0 0 0 (-1) v6 v7 v8 v9 vN 0 1 v37 v38 v39 v40 v41 0 0 0 0 0))] [.ref a0, .int 0]) (vp_Si (fun r => r = 0)) 0 0 (fun _ => False) := by
  refine Met.ofW (cc := cX12_sign) (maxL := 2) (ret := (some .int)) (by decide) rfl ?_
  intro p e s m args below meth c s₁ B hml hv
  obtain ⟨rfl, hP, hK⟩ := hv
  have hx := B.exec
  have hb := B.bytes
  have hr := B.returns
  have hts := atoms_spec (ws := wsX12_sign) B.pre
  have hown : s.vm.findClass RX12 = some m.cls := findClass_of_methodNamed B.named
  have hlocks := B.notSynchronized
  have hl := lv_entry ([.ref a0, .int 0]) (n := 2) (Nat.le_of_ble_eq_true rfl)
  rw [lg_entry_eq]
  generalize (lg_sl ([.ref a0, .int 0]) ++ List.replicate (2 - (lg_sl ([.ref a0, .int 0])).length) Slot.unset).toArray = ls at hl ⊢
  replace hl : lv_has ls 2 [(0, .ref a0), (1, .int 0)] := hl
  refine lv_iload_n hx hb dX12_sign_0 rfl (lv_at hl 1 rfl) ?_
  refine lv_aload_n hx hb dX12_sign_1 rfl (lv_at hl 0 rfl) ?_
  refine va_get (D := D) (ci := 12) (v := .int 0) (C := RX12) (T := TX12) (N := 71) hx hb hts iw_X12_sign_X12 hown hK hP 0 rfl rfl 3 (by decide) (hts (.fieldLink RX12 173 "SoldHouseModel" "size" "I") (List.mem_of_getElem? (i := 1) rfl)) (fun _ h9 => h9) rfl dX12_sign_2 ?_
  refine lv_icmp_ge (tgt := 21) hx hb dX12_sign_5 (by decide) (fun _ => ?_) (fun c_1 => absurd (by decide) c_1)
  refine lv_iconst (v := 0) hx hb dX12_sign_21 (by decide) ?_
  exact W.iret (v := 0) hx hb hr (fun t ht hW => ⟨0, rfl, rfl, ht⟩) (fun q hq => by cases hq) dX12_sign_22
set_option maxHeartbeats 4000000 in
set_option maxRecDepth 100000 in
theorem m_isGood (l : Launch) (D : va_G) (cI : ClassId) (cB : ClassId) (cL : ClassId) (cZ : ClassId) (a0 : Nat) (ad : Nat → Nat) (v3 : Int32) (v6 : Int32) (v7 : Int32) (v8 : Int32) (v9 : Int32) (v37 : Int32) (v38 : Int32) (v39 : Int32) (v40 : Int32) (v41 : Int32) (vN : Int64) : Met l yX12_isGood wsX12_isGood ({ frames := 0, cells := 0, slots := 0, locals := 0 }) (xr D [(cI, .int), (cB, .byte), (cL, .long), (cZ, .boolean)] [(a0, .inr (12, MF ad 0 v3 0 (-1) v6 v7 v8 v9 vN 0 1 v37 v38 v39 v40 v41 0 0 0 0 0))] [.ref a0]) (vp_Si (fun r => r = 1)) 0 0 (fun _ => False) := by
  refine Met.ofW (cc := cX12_isGood) (maxL := 1) (ret := (some .boolean)) (by decide) rfl ?_
  intro p e s m args below meth c s₁ B hml hv
  obtain ⟨rfl, hP, hK⟩ := hv
  have hx := B.exec
  have hb := B.bytes
  have hr := B.returns
  have hts := atoms_spec (ws := wsX12_isGood) B.pre
  have hown : s.vm.findClass RX12 = some m.cls := findClass_of_methodNamed B.named
  have hlocks := B.notSynchronized
  have hl := lv_entry ([.ref a0]) (n := 1) (Nat.le_of_ble_eq_true rfl)
  rw [lg_entry_eq]
  generalize (lg_sl ([.ref a0]) ++ List.replicate (1 - (lg_sl ([.ref a0])).length) Slot.unset).toArray = ls at hl ⊢
  replace hl : lv_has ls 1 [(0, .ref a0)] := hl
  refine lv_aload_n hx hb dX12_isGood_0 rfl (lv_at hl 0 rfl) ?_
  refine va_get (D := D) (ci := 12) (v := .int 0) (C := RX12) (T := TX12) (N := 71) hx hb hts iw_X12_isGood_X12 hown hK hP 0 rfl rfl 4 (by decide) (hts (.fieldLink RX12 176 "SoldHouseModel" "faultKind" "I") (List.mem_of_getElem? (i := 1) rfl)) (fun _ h9 => h9) rfl dX12_isGood_1 ?_
  refine lv_if_ne (tgt := 11) hx hb dX12_isGood_4 (by decide) (fun c_1 => absurd (by decide) c_1) (fun _ => ?_)
  refine lv_iconst (v := 1) hx hb dX12_isGood_7 (by decide) ?_
  refine lv_goto (tgt := 12) hx hb dX12_isGood_8 (by decide) ?_
  exact W.zret (v := 1) (ty := .boolean) hx hb hr (by decide) (fun t ht hW => ⟨1, rfl, rfl, ht⟩) (fun q hq => by cases hq) dX12_isGood_12
set_option maxHeartbeats 4000000 in
set_option maxRecDepth 100000 in
theorem m_goOn (l : Launch) (D : va_G) (cI : ClassId) (cB : ClassId) (cL : ClassId) (cZ : ClassId) (a0 : Nat) (ad : Nat → Nat) (v6 : Int32) (v8 : Int32) (v9 : Int32) (v37 : Int32) (v38 : Int32) (v39 : Int32) (v40 : Int32) (v41 : Int32) (vN : Int64) (sz : Nat) : Met l yX12_goOn wsX12_goOn ({ frames := 1, cells := 0, slots := 0, locals := 21 }) (xp D [(cI, .int), (cB, .byte), (cL, .long), (cZ, .boolean)] [(a0, .inr (12, MF ad 0 0 0 (-1) v6 0 v8 v9 vN 0 1 v37 v38 v39 v40 v41 0 0 0 0 0))] sz [] [.ref a0]) (va_Qv (fun _ : Unit => True) (fun (_ : Unit) (t : State) => xB D (va_A [(a0, .inr (12, MF ad 0 0 0 (-1) v6 0 v8 v9 vN 0 1 v37 v38 v39 v40 v41 0 0 0 0 0))] sz) [(a0, .inr (12, MF ad 0 0 0 (-1) 0 0 0 v9 vN 0 1 v37 v38 v39 v40 v41 0 0 0 0 0))] t) (va_A [(a0, .inr (12, MF ad 0 0 0 (-1) v6 0 v8 v9 vN 0 1 v37 v38 v39 v40 v41 0 0 0 0 0))] sz)) 0 0 (va_A [(a0, .inr (12, MF ad 0 0 0 (-1) v6 0 v8 v9 vN 0 1 v37 v38 v39 v40 v41 0 0 0 0 0))] sz) := by
  refine Met.ofW (cc := cX12_goOn) (maxL := 3) (ret := none) (by decide) rfl ?_
  intro p e s m args below meth c s₁ B hml hv
  obtain ⟨rfl, hsz, hP, hK, hD0, hNw⟩ := hv
  have hx := B.exec
  have hb := B.bytes
  have hr := B.returns
  have hts := atoms_spec (ws := wsX12_goOn) B.pre
  have hown : s.vm.findClass RX12 = some m.cls := findClass_of_methodNamed B.named
  have hlocks := B.notSynchronized
  subst hsz
  have hD := hD0.self (sz := s.heap.size)
  clear hD0
  generalize hAe : va_A [(a0, .inr (12, MF ad 0 0 0 (-1) v6 0 v8 v9 vN 0 1 v37 v38 v39 v40 v41 0 0 0 0 0))] s.heap.size = A at hD ⊢
  have hA : ∀ q : Nat, s.heap.size ≤ q → A q := fun q h => by rw [← hAe]; exact Or.inr h
  have hS : va_S A s.heap s.heap [] := va_S.rf
  clear hAe
  obtain ⟨H, hH⟩ : ∃ H : Heap, H = s.heap := ⟨_, rfl⟩
  obtain ⟨locs, hlocs⟩ : ∃ L : List Loc, L = [] := ⟨_, rfl⟩
  replace hP : va_P D classes [(a0, .inr (12, MF ad 0 0 0 (-1) v6 0 v8 v9 vN 0 1 v37 v38 v39 v40 v41 0 0 0 0 0))] H := by rw [hH]; exact hP
  replace hS : va_S A s.heap H locs := by rw [hH, hlocs]; exact hS
  rw [← hH, ← hlocs]
  clear hlocs hH
  have hl := lv_entry ([.ref a0]) (n := 3) (Nat.le_of_ble_eq_true rfl)
  rw [lg_entry_eq]
  generalize (lg_sl ([.ref a0]) ++ List.replicate (3 - (lg_sl ([.ref a0])).length) Slot.unset).toArray = ls at hl ⊢
  replace hl : lv_has ls 3 [(0, .ref a0)] := hl
  refine lv_aload_n hx hb dX12_goOn_0 rfl (lv_at hl 0 rfl) ?_
  refine lv_aload_n hx hb dX12_goOn_1 rfl (lv_at hl 0 rfl) ?_
  refine va_get (D := D) (ci := 12) (v := .int 0) (C := RX12) (T := TX12) (N := 71) hx hb hts iw_X12_goOn_X12 hown hK hP 0 rfl rfl 7 (by decide) (hts (.fieldLink RX12 213 "SoldHouseModel" "end" "I") (List.mem_of_getElem? (i := 1) rfl)) (fun _ h9 => h9) rfl dX12_goOn_2 ?_
  refine va_put (D := D) (ci := 12) (v := .int 0) (ty := tyX12 6) (C := RX12) (T := TX12) (N := 71) hx hb hts iw_X12_goOn_X12 tyX12 tyX12_ok nmX12 hown hK hP hD hS 0 rfl rfl 6 (by decide) (hts (.fieldLink RX12 216 "SoldHouseModel" "at" "I") (List.mem_of_getElem? (i := 2) rfl)) (fun _ h9 => h9) rfl (by decide +kernel) rfl rfl (Nat.le_of_ble_eq_true rfl) dX12_goOn_5 (fun H locs hP hD hS => ?_)
  replace hP : va_P D classes [(a0, .inr (12, MF ad 0 0 0 (-1) 0 0 v8 v9 vN 0 1 v37 v38 v39 v40 v41 0 0 0 0 0))] H := hP
  replace hD : va_D A [(a0, .inr (12, MF ad 0 0 0 (-1) 0 0 v8 v9 vN 0 1 v37 v38 v39 v40 v41 0 0 0 0 0))] := hD
  refine lv_aload_n hx hb dX12_goOn_8 rfl (lv_at hl 0 rfl) ?_
  refine va_get (D := D) (ci := 12) (v := .int 0) (C := RX12) (T := TX12) (N := 71) hx hb hts iw_X12_goOn_X12 hown hK hP 0 rfl rfl 6 (by decide) (hts (.fieldLink RX12 216 "SoldHouseModel" "at" "I") (List.mem_of_getElem? (i := 2) rfl)) (fun _ h9 => h9) rfl dX12_goOn_9 ?_
  refine lv_aload_n hx hb dX12_goOn_12 rfl (lv_at hl 0 rfl) ?_
  refine va_get (D := D) (ci := 12) (v := .int 0) (C := RX12) (T := TX12) (N := 71) hx hb hts iw_X12_goOn_X12 hown hK hP 0 rfl rfl 3 (by decide) (hts (.fieldLink RX12 173 "SoldHouseModel" "size" "I") (List.mem_of_getElem? (i := 3) rfl)) (fun _ h9 => h9) rfl dX12_goOn_13 ?_
  refine lv_icmp_ge (tgt := 58) hx hb dX12_goOn_16 (by decide) (fun _ => ?_) (fun c_1 => absurd (by decide) c_1)
  refine lv_aload_n hx hb dX12_goOn_58 rfl (lv_at hl 0 rfl) ?_
  refine lv_aload_n hx hb dX12_goOn_59 rfl (lv_at hl 0 rfl) ?_
  refine va_get (D := D) (ci := 12) (v := .int 0) (C := RX12) (T := TX12) (N := 71) hx hb hts iw_X12_goOn_X12 hown hK hP 0 rfl rfl 6 (by decide) (hts (.fieldLink RX12 216 "SoldHouseModel" "at" "I") (List.mem_of_getElem? (i := 2) rfl)) (fun _ h9 => h9) rfl dX12_goOn_60 ?_
  have hPc := hP.sub (ws' := [(a0, .inr (12, MF ad 0 0 0 (-1) 0 0 v8 v9 vN 0 1 v37 v38 v39 v40 v41 0 0 0 0 0))]) [0] rfl
  refine vp_callSi (va_runV (As := [.int 0]) (rest := []) ⟨hx, hb, hml, hown, hts⟩ (m_sign l D cI cB cL cZ a0 ad 0 0 v8 v9 v37 v38 v39 v40 v41 vN) (cwV 1 hts gX12_goOn_X12_sign rfl rfl rfl (by decide +kernel) ⟨Nat.le_of_ble_eq_true rfl, Nat.le_of_ble_eq_true rfl⟩) ⟨xr_blind, va_recv hK hPc (ci := 12) (q0 := 0) rfl rfl, fun U hU hW => xr_mk hU hW hPc hK⟩ rfl rfl hl.1 rfl (lv_room (Nat.le_of_ble_eq_true rfl)) dX12_goOn_63 ⟨Nat.le_of_ble_eq_true rfl, Nat.le_of_ble_eq_true rfl⟩).run (fun r_2 hr_2 => ?_)
  clear hPc
  subst hr_2
  refine lv_istore_n (lv' := [(1, .int 0), (0, .ref a0)]) hx hb dX12_goOn_66 rfl hl (by decide) rfl (fun ls hl => ?_)
  refine lv_aload_n hx hb dX12_goOn_67 rfl (lv_at hl 1 rfl) ?_
  refine lv_aload_n hx hb dX12_goOn_68 rfl (lv_at hl 1 rfl) ?_
  refine va_get (D := D) (ci := 12) (v := .int 0) (C := RX12) (T := TX12) (N := 71) hx hb hts iw_X12_goOn_X12 hown hK hP 0 rfl rfl 6 (by decide) (hts (.fieldLink RX12 216 "SoldHouseModel" "at" "I") (List.mem_of_getElem? (i := 2) rfl)) (fun _ h9 => h9) rfl dX12_goOn_69 ?_
  refine lv_iconst (v := 1) hx hb dX12_goOn_72 (by decide) ?_
  refine lv_iadd hx hb dX12_goOn_73 ?_
  refine lv_topi (fun y_3 ey_3 => ?_)
  obtain rfl : y_3 = 1 := ey_3.trans (by decide)
  refine va_put (D := D) (ci := 12) (v := .int 1) (ty := tyX12 7) (C := RX12) (T := TX12) (N := 71) hx hb hts iw_X12_goOn_X12 tyX12 tyX12_ok nmX12 hown hK hP hD hS 0 rfl rfl 7 (by decide) (hts (.fieldLink RX12 213 "SoldHouseModel" "end" "I") (List.mem_of_getElem? (i := 1) rfl)) (fun _ h9 => h9) rfl (by decide +kernel) rfl rfl (Nat.le_of_ble_eq_true rfl) dX12_goOn_74 (fun H locs hP hD hS => ?_)
  replace hP : va_P D classes [(a0, .inr (12, MF ad 0 0 0 (-1) 0 1 v8 v9 vN 0 1 v37 v38 v39 v40 v41 0 0 0 0 0))] H := hP
  replace hD : va_D A [(a0, .inr (12, MF ad 0 0 0 (-1) 0 1 v8 v9 vN 0 1 v37 v38 v39 v40 v41 0 0 0 0 0))] := hD
  refine lv_aload_n hx hb dX12_goOn_77 rfl (lv_at hl 1 rfl) ?_
  refine va_get (D := D) (ci := 12) (v := .int 0) (C := RX12) (T := TX12) (N := 71) hx hb hts iw_X12_goOn_X12 hown hK hP 0 rfl rfl 6 (by decide) (hts (.fieldLink RX12 216 "SoldHouseModel" "at" "I") (List.mem_of_getElem? (i := 2) rfl)) (fun _ h9 => h9) rfl dX12_goOn_78 ?_
  refine lv_aload_n hx hb dX12_goOn_81 rfl (lv_at hl 1 rfl) ?_
  refine va_get (D := D) (ci := 12) (v := .int 0) (C := RX12) (T := TX12) (N := 71) hx hb hts iw_X12_goOn_X12 hown hK hP 0 rfl rfl 3 (by decide) (hts (.fieldLink RX12 173 "SoldHouseModel" "size" "I") (List.mem_of_getElem? (i := 3) rfl)) (fun _ h9 => h9) rfl dX12_goOn_82 ?_
  refine lv_icmp_lt (tgt := 112) hx hb dX12_goOn_85 (by decide) (fun c_4 => absurd c_4 (by decide)) (fun _ => ?_)
  refine lv_aload_n hx hb dX12_goOn_88 rfl (lv_at hl 1 rfl) ?_
  refine lv_iconst (v := 0) hx hb dX12_goOn_89 (by decide) ?_
  refine va_put (D := D) (ci := 12) (v := .int 0) (ty := tyX12 8) (C := RX12) (T := TX12) (N := 71) hx hb hts iw_X12_goOn_X12 tyX12 tyX12_ok nmX12 hown hK hP hD hS 0 rfl rfl 8 (by decide) (hts (.fieldLink RX12 223 "SoldHouseModel" "token" "I") (List.mem_of_getElem? (i := 4) rfl)) (fun _ h9 => h9) rfl (by decide +kernel) rfl rfl (Nat.le_of_ble_eq_true rfl) dX12_goOn_90 (fun H locs hP hD hS => ?_)
  replace hP : va_P D classes [(a0, .inr (12, MF ad 0 0 0 (-1) 0 1 0 v9 vN 0 1 v37 v38 v39 v40 v41 0 0 0 0 0))] H := hP
  replace hD : va_D A [(a0, .inr (12, MF ad 0 0 0 (-1) 0 1 0 v9 vN 0 1 v37 v38 v39 v40 v41 0 0 0 0 0))] := hD
  refine lv_aload_n hx hb dX12_goOn_93 rfl (lv_at hl 1 rfl) ?_
  refine lv_aload_n hx hb dX12_goOn_94 rfl (lv_at hl 1 rfl) ?_
  refine va_get (D := D) (ci := 12) (v := .int 0) (C := RX12) (T := TX12) (N := 71) hx hb hts iw_X12_goOn_X12 hown hK hP 0 rfl rfl 3 (by decide) (hts (.fieldLink RX12 173 "SoldHouseModel" "size" "I") (List.mem_of_getElem? (i := 3) rfl)) (fun _ h9 => h9) rfl dX12_goOn_95 ?_
  refine va_put (D := D) (ci := 12) (v := .int 0) (ty := tyX12 6) (C := RX12) (T := TX12) (N := 71) hx hb hts iw_X12_goOn_X12 tyX12 tyX12_ok nmX12 hown hK hP hD hS 0 rfl rfl 6 (by decide) (hts (.fieldLink RX12 216 "SoldHouseModel" "at" "I") (List.mem_of_getElem? (i := 2) rfl)) (fun _ h9 => h9) rfl (by decide +kernel) rfl rfl (Nat.le_of_ble_eq_true rfl) dX12_goOn_98 (fun H locs hP hD hS => ?_)
  replace hP : va_P D classes [(a0, .inr (12, MF ad 0 0 0 (-1) 0 1 0 v9 vN 0 1 v37 v38 v39 v40 v41 0 0 0 0 0))] H := hP
  replace hD : va_D A [(a0, .inr (12, MF ad 0 0 0 (-1) 0 1 0 v9 vN 0 1 v37 v38 v39 v40 v41 0 0 0 0 0))] := hD
  refine lv_aload_n hx hb dX12_goOn_101 rfl (lv_at hl 1 rfl) ?_
  refine lv_aload_n hx hb dX12_goOn_102 rfl (lv_at hl 1 rfl) ?_
  refine va_get (D := D) (ci := 12) (v := .int 0) (C := RX12) (T := TX12) (N := 71) hx hb hts iw_X12_goOn_X12 hown hK hP 0 rfl rfl 3 (by decide) (hts (.fieldLink RX12 173 "SoldHouseModel" "size" "I") (List.mem_of_getElem? (i := 3) rfl)) (fun _ h9 => h9) rfl dX12_goOn_103 ?_
  refine va_put (D := D) (ci := 12) (v := .int 0) (ty := tyX12 7) (C := RX12) (T := TX12) (N := 71) hx hb hts iw_X12_goOn_X12 tyX12 tyX12_ok nmX12 hown hK hP hD hS 0 rfl rfl 7 (by decide) (hts (.fieldLink RX12 213 "SoldHouseModel" "end" "I") (List.mem_of_getElem? (i := 1) rfl)) (fun _ h9 => h9) rfl (by decide +kernel) rfl rfl (Nat.le_of_ble_eq_true rfl) dX12_goOn_106 (fun H locs hP hD hS => ?_)
  replace hP : va_P D classes [(a0, .inr (12, MF ad 0 0 0 (-1) 0 0 0 v9 vN 0 1 v37 v38 v39 v40 v41 0 0 0 0 0))] H := hP
  replace hD : va_D A [(a0, .inr (12, MF ad 0 0 0 (-1) 0 0 0 v9 vN 0 1 v37 v38 v39 v40 v41 0 0 0 0 0))] := hD
  refine lv_goto (tgt := 377) hx hb dX12_goOn_109 (by decide) ?_
  have hP9 := hP.sub (ws' := [(a0, .inr (12, MF ad 0 0 0 (-1) 0 0 0 v9 vN 0 1 v37 v38 v39 v40 v41 0 0 0 0 0))]) [0] rfl
  have hD9 := hD.sub (ws' := [(a0, .inr (12, MF ad 0 0 0 (-1) 0 0 0 v9 vN 0 1 v37 v38 v39 v40 v41 0 0 0 0 0))]) [0] (by decide) rfl
  refine W.widen (k := 0) (n := 0) (Nat.le_of_ble_eq_true rfl) (Nat.le_of_ble_eq_true rfl) ?_
  exact W.vret hx hb hr (fun t ht hW => ⟨⟨(), rfl, trivial, ⟨by rw [ht]; exact hP9, hD9⟩⟩, hS.F ht⟩) hS.2.2 dX12_goOn_377
set_option maxHeartbeats 4000000 in
set_option maxRecDepth 100000 in
theorem m_house (l : Launch) (D : va_G) (cI : ClassId) (cB : ClassId) (cL : ClassId) (cZ : ClassId) (a0 : Nat) (ad : Nat → Nat) (v3 : Int32) (v6 : Int32) (v7 : Int32) (v8 : Int32) (v9 : Int32) (v36 : Int32) (v37 : Int32) (v38 : Int32) (v39 : Int32) (v40 : Int32) (v41 : Int32) (vN : Int64) (fR : Nat → Int32) (fD : Nat → Int32) (fT : Nat → Int32) (fU : Nat → Int32) (fW : Nat → Int32) (fS : Nat → Int32) (fX : Nat → Int32) (fA : Nat → Int32) (fB : Nat → Int32) (sz : Nat) (hf_fR_0 : fR 0 = 0) (hf_fR_1 : fR 1 = 0) (hf_fD_0 : fD 0 = 0) (hf_fD_1 : fD 1 = 0) (hf_fT_0 : fT 0 = 0) (hf_fT_1 : fT 1 = 0) (hf_fU_0 : fU 0 = 0) (hf_fU_1 : fU 1 = 0) (hf_fW_0 : fW 0 = 0) (hf_fW_1 : fW 1 = 0) (hf_fS_0 : fS 0 = 0) (hf_fS_1 : fS 1 = 0) (hf_fX_0 : fX 0 = 0) (hf_fX_1 : fX 1 = 0) (hf_fA_30 : fA 30 = 0) (hf_fA_31 : fA 31 = 0) : Met l yX12_house wsX12_house ({ frames := 3, cells := 0, slots := 0, locals := 67 }) (xp D [(cI, .int), (cB, .byte), (cL, .long), (cZ, .boolean)] [(a0, .inr (12, MF ad 0 v3 0 (-1) v6 v7 v8 v9 vN 0 v36 v37 v38 v39 v40 v41 0 0 0 0 0)), ((ad 11), .inl (cI, 2, .inl fR)), ((ad 12), .inl (cI, 2, .inl fD)), ((ad 13), .inl (cI, 2, .inl fT)), ((ad 14), .inl (cI, 2, .inl fU)), ((ad 15), .inl (cI, 2, .inl fW)), ((ad 26), .inl (cZ, 2, .inl fS)), ((ad 27), .inl (cZ, 2, .inl fX)), ((ad 42), .inl (cI, 32, .inl fA)), ((ad 70), .inl (cZ, 3, .inl fB))] sz [] [.ref a0]) (va_Qi (fun (r : Int32) (_ : Unit) => r = 0) (fun (_ : Unit) (_ : State) => True) (va_A [(a0, .inr (12, MF ad 0 v3 0 (-1) v6 v7 v8 v9 vN 0 v36 v37 v38 v39 v40 v41 0 0 0 0 0)), ((ad 11), .inl (cI, 2, .inl fR)), ((ad 12), .inl (cI, 2, .inl fD)), ((ad 13), .inl (cI, 2, .inl fT)), ((ad 14), .inl (cI, 2, .inl fU)), ((ad 15), .inl (cI, 2, .inl fW)), ((ad 26), .inl (cZ, 2, .inl fS)), ((ad 27), .inl (cZ, 2, .inl fX)), ((ad 42), .inl (cI, 32, .inl fA)), ((ad 70), .inl (cZ, 3, .inl fB))] sz)) 0 0 (va_A [(a0, .inr (12, MF ad 0 v3 0 (-1) v6 v7 v8 v9 vN 0 v36 v37 v38 v39 v40 v41 0 0 0 0 0)), ((ad 11), .inl (cI, 2, .inl fR)), ((ad 12), .inl (cI, 2, .inl fD)), ((ad 13), .inl (cI, 2, .inl fT)), ((ad 14), .inl (cI, 2, .inl fU)), ((ad 15), .inl (cI, 2, .inl fW)), ((ad 26), .inl (cZ, 2, .inl fS)), ((ad 27), .inl (cZ, 2, .inl fX)), ((ad 42), .inl (cI, 32, .inl fA)), ((ad 70), .inl (cZ, 3, .inl fB))] sz) := by
  refine Met.ofW (cc := cX12_house) (maxL := 2) (ret := (some .int)) (by decide) rfl ?_
  intro p e s m args below meth c s₁ B hml hv
  obtain ⟨rfl, hsz, hP, hK, hD0, hNw⟩ := hv
  have hx := B.exec
  have hb := B.bytes
  have hr := B.returns
  have hts := atoms_spec (ws := wsX12_house) B.pre
  have hown : s.vm.findClass RX12 = some m.cls := findClass_of_methodNamed B.named
  have hlocks := B.notSynchronized
  subst hsz
  have hD := hD0.self (sz := s.heap.size)
  clear hD0
  generalize hAe : va_A [(a0, .inr (12, MF ad 0 v3 0 (-1) v6 v7 v8 v9 vN 0 v36 v37 v38 v39 v40 v41 0 0 0 0 0)), ((ad 11), .inl (cI, 2, .inl fR)), ((ad 12), .inl (cI, 2, .inl fD)), ((ad 13), .inl (cI, 2, .inl fT)), ((ad 14), .inl (cI, 2, .inl fU)), ((ad 15), .inl (cI, 2, .inl fW)), ((ad 26), .inl (cZ, 2, .inl fS)), ((ad 27), .inl (cZ, 2, .inl fX)), ((ad 42), .inl (cI, 32, .inl fA)), ((ad 70), .inl (cZ, 3, .inl fB))] s.heap.size = A at hD ⊢
  have hA : ∀ q : Nat, s.heap.size ≤ q → A q := fun q h => by rw [← hAe]; exact Or.inr h
  have hS : va_S A s.heap s.heap [] := va_S.rf
  clear hAe
  obtain ⟨H, hH⟩ : ∃ H : Heap, H = s.heap := ⟨_, rfl⟩
  obtain ⟨locs, hlocs⟩ : ∃ L : List Loc, L = [] := ⟨_, rfl⟩
  replace hP : va_P D classes [(a0, .inr (12, MF ad 0 v3 0 (-1) v6 v7 v8 v9 vN 0 v36 v37 v38 v39 v40 v41 0 0 0 0 0)), ((ad 11), .inl (cI, 2, .inl fR)), ((ad 12), .inl (cI, 2, .inl fD)), ((ad 13), .inl (cI, 2, .inl fT)), ((ad 14), .inl (cI, 2, .inl fU)), ((ad 15), .inl (cI, 2, .inl fW)), ((ad 26), .inl (cZ, 2, .inl fS)), ((ad 27), .inl (cZ, 2, .inl fX)), ((ad 42), .inl (cI, 32, .inl fA)), ((ad 70), .inl (cZ, 3, .inl fB))] H := by rw [hH]; exact hP
  replace hS : va_S A s.heap H locs := by rw [hH, hlocs]; exact hS
  rw [← hH, ← hlocs]
  clear hlocs hH
  have hl := lv_entry ([.ref a0]) (n := 2) (Nat.le_of_ble_eq_true rfl)
  rw [lg_entry_eq]
  generalize (lg_sl ([.ref a0]) ++ List.replicate (2 - (lg_sl ([.ref a0])).length) Slot.unset).toArray = ls at hl ⊢
  replace hl : lv_has ls 2 [(0, .ref a0)] := hl
  refine lv_aload_n hx hb dX12_house_0 rfl (lv_at hl 0 rfl) ?_
  refine lv_iconst (v := 0) hx hb dX12_house_1 (by decide) ?_
  refine va_put (D := D) (ci := 12) (v := .int 0) (ty := tyX12 4) (C := RX12) (T := TX12) (N := 71) hx hb hts iw_X12_house_X12 tyX12 tyX12_ok nmX12 hown hK hP hD hS 0 rfl rfl 4 (by decide) (hts (.fieldLink RX12 176 "SoldHouseModel" "faultKind" "I") (List.mem_of_getElem? (i := 1) rfl)) (fun _ h9 => h9) rfl (by decide +kernel) rfl rfl (Nat.le_of_ble_eq_true rfl) dX12_house_2 (fun H locs hP hD hS => ?_)
  replace hP : va_P D classes [(a0, .inr (12, MF ad 0 v3 0 (-1) v6 v7 v8 v9 vN 0 v36 v37 v38 v39 v40 v41 0 0 0 0 0)), ((ad 11), .inl (cI, 2, .inl fR)), ((ad 12), .inl (cI, 2, .inl fD)), ((ad 13), .inl (cI, 2, .inl fT)), ((ad 14), .inl (cI, 2, .inl fU)), ((ad 15), .inl (cI, 2, .inl fW)), ((ad 26), .inl (cZ, 2, .inl fS)), ((ad 27), .inl (cZ, 2, .inl fX)), ((ad 42), .inl (cI, 32, .inl fA)), ((ad 70), .inl (cZ, 3, .inl fB))] H := hP
  replace hD : va_D A [(a0, .inr (12, MF ad 0 v3 0 (-1) v6 v7 v8 v9 vN 0 v36 v37 v38 v39 v40 v41 0 0 0 0 0)), ((ad 11), .inl (cI, 2, .inl fR)), ((ad 12), .inl (cI, 2, .inl fD)), ((ad 13), .inl (cI, 2, .inl fT)), ((ad 14), .inl (cI, 2, .inl fU)), ((ad 15), .inl (cI, 2, .inl fW)), ((ad 26), .inl (cZ, 2, .inl fS)), ((ad 27), .inl (cZ, 2, .inl fX)), ((ad 42), .inl (cI, 32, .inl fA)), ((ad 70), .inl (cZ, 3, .inl fB))] := hD
  refine lv_aload_n hx hb dX12_house_5 rfl (lv_at hl 0 rfl) ?_
  refine lv_iconst (v := (-1)) hx hb dX12_house_6 (by decide) ?_
  refine va_put (D := D) (ci := 12) (v := .int (-1)) (ty := tyX12 5) (C := RX12) (T := TX12) (N := 71) hx hb hts iw_X12_house_X12 tyX12 tyX12_ok nmX12 hown hK hP hD hS 0 rfl rfl 5 (by decide) (hts (.fieldLink RX12 16 "SoldHouseModel" "faultPlace" "I") (List.mem_of_getElem? (i := 2) rfl)) (fun _ h9 => h9) rfl (by decide +kernel) rfl rfl (Nat.le_of_ble_eq_true rfl) dX12_house_7 (fun H locs hP hD hS => ?_)
  replace hP : va_P D classes [(a0, .inr (12, MF ad 0 v3 0 (-1) v6 v7 v8 v9 vN 0 v36 v37 v38 v39 v40 v41 0 0 0 0 0)), ((ad 11), .inl (cI, 2, .inl fR)), ((ad 12), .inl (cI, 2, .inl fD)), ((ad 13), .inl (cI, 2, .inl fT)), ((ad 14), .inl (cI, 2, .inl fU)), ((ad 15), .inl (cI, 2, .inl fW)), ((ad 26), .inl (cZ, 2, .inl fS)), ((ad 27), .inl (cZ, 2, .inl fX)), ((ad 42), .inl (cI, 32, .inl fA)), ((ad 70), .inl (cZ, 3, .inl fB))] H := hP
  replace hD : va_D A [(a0, .inr (12, MF ad 0 v3 0 (-1) v6 v7 v8 v9 vN 0 v36 v37 v38 v39 v40 v41 0 0 0 0 0)), ((ad 11), .inl (cI, 2, .inl fR)), ((ad 12), .inl (cI, 2, .inl fD)), ((ad 13), .inl (cI, 2, .inl fT)), ((ad 14), .inl (cI, 2, .inl fU)), ((ad 15), .inl (cI, 2, .inl fW)), ((ad 26), .inl (cZ, 2, .inl fS)), ((ad 27), .inl (cZ, 2, .inl fX)), ((ad 42), .inl (cI, 32, .inl fA)), ((ad 70), .inl (cZ, 3, .inl fB))] := hD
  refine lv_aload_n hx hb dX12_house_10 rfl (lv_at hl 0 rfl) ?_
  refine lv_aload_n hx hb dX12_house_11 rfl (lv_at hl 0 rfl) ?_
  refine va_get (D := D) (ci := 12) (v := .int 0) (C := RX12) (T := TX12) (N := 71) hx hb hts iw_X12_house_X12 hown hK hP 0 rfl rfl 2 (by decide) (hts (.fieldLink RX12 277 "SoldHouseModel" "taped" "I") (List.mem_of_getElem? (i := 3) rfl)) (fun _ h9 => h9) rfl dX12_house_12 ?_
  refine va_put (D := D) (ci := 12) (v := .int 0) (ty := tyX12 3) (C := RX12) (T := TX12) (N := 71) hx hb hts iw_X12_house_X12 tyX12 tyX12_ok nmX12 hown hK hP hD hS 0 rfl rfl 3 (by decide) (hts (.fieldLink RX12 173 "SoldHouseModel" "size" "I") (List.mem_of_getElem? (i := 4) rfl)) (fun _ h9 => h9) rfl (by decide +kernel) rfl rfl (Nat.le_of_ble_eq_true rfl) dX12_house_15 (fun H locs hP hD hS => ?_)
  replace hP : va_P D classes [(a0, .inr (12, MF ad 0 0 0 (-1) v6 v7 v8 v9 vN 0 v36 v37 v38 v39 v40 v41 0 0 0 0 0)), ((ad 11), .inl (cI, 2, .inl fR)), ((ad 12), .inl (cI, 2, .inl fD)), ((ad 13), .inl (cI, 2, .inl fT)), ((ad 14), .inl (cI, 2, .inl fU)), ((ad 15), .inl (cI, 2, .inl fW)), ((ad 26), .inl (cZ, 2, .inl fS)), ((ad 27), .inl (cZ, 2, .inl fX)), ((ad 42), .inl (cI, 32, .inl fA)), ((ad 70), .inl (cZ, 3, .inl fB))] H := hP
  replace hD : va_D A [(a0, .inr (12, MF ad 0 0 0 (-1) v6 v7 v8 v9 vN 0 v36 v37 v38 v39 v40 v41 0 0 0 0 0)), ((ad 11), .inl (cI, 2, .inl fR)), ((ad 12), .inl (cI, 2, .inl fD)), ((ad 13), .inl (cI, 2, .inl fT)), ((ad 14), .inl (cI, 2, .inl fU)), ((ad 15), .inl (cI, 2, .inl fW)), ((ad 26), .inl (cZ, 2, .inl fS)), ((ad 27), .inl (cZ, 2, .inl fX)), ((ad 42), .inl (cI, 32, .inl fA)), ((ad 70), .inl (cZ, 3, .inl fB))] := hD
  refine lv_iconst (v := 0) hx hb dX12_house_18 (by decide) ?_
  refine lv_istore_n (lv' := [(1, .int 0), (0, .ref a0)]) hx hb dX12_house_19 rfl hl (by decide) rfl (fun ls hl => ?_)
  refine lv_iload_n hx hb dX12_house_20 rfl (lv_at hl 0 rfl) ?_
  refine lv_aload_n hx hb dX12_house_21 rfl (lv_at hl 1 rfl) ?_
  refine va_get (D := D) (ci := 12) (v := .int 0) (C := RX12) (T := TX12) (N := 71) hx hb hts iw_X12_house_X12 hown hK hP 0 rfl rfl 3 (by decide) (hts (.fieldLink RX12 173 "SoldHouseModel" "size" "I") (List.mem_of_getElem? (i := 4) rfl)) (fun _ h9 => h9) rfl dX12_house_22 ?_
  refine lv_icmp_ge (tgt := 46) hx hb dX12_house_25 (by decide) (fun _ => ?_) (fun c_1 => absurd (by decide) c_1)
  refine lv_aload_n hx hb dX12_house_46 rfl (lv_at hl 1 rfl) ?_
  refine lv_iconst (v := 0) hx hb dX12_house_47 (by decide) ?_
  refine va_put (D := D) (ci := 12) (v := .int 0) (ty := tyX12 2) (C := RX12) (T := TX12) (N := 71) hx hb hts iw_X12_house_X12 tyX12 tyX12_ok nmX12 hown hK hP hD hS 0 rfl rfl 2 (by decide) (hts (.fieldLink RX12 277 "SoldHouseModel" "taped" "I") (List.mem_of_getElem? (i := 3) rfl)) (fun _ h9 => h9) rfl (by decide +kernel) rfl rfl (Nat.le_of_ble_eq_true rfl) dX12_house_48 (fun H locs hP hD hS => ?_)
  replace hP : va_P D classes [(a0, .inr (12, MF ad 0 0 0 (-1) v6 v7 v8 v9 vN 0 v36 v37 v38 v39 v40 v41 0 0 0 0 0)), ((ad 11), .inl (cI, 2, .inl fR)), ((ad 12), .inl (cI, 2, .inl fD)), ((ad 13), .inl (cI, 2, .inl fT)), ((ad 14), .inl (cI, 2, .inl fU)), ((ad 15), .inl (cI, 2, .inl fW)), ((ad 26), .inl (cZ, 2, .inl fS)), ((ad 27), .inl (cZ, 2, .inl fX)), ((ad 42), .inl (cI, 32, .inl fA)), ((ad 70), .inl (cZ, 3, .inl fB))] H := hP
  replace hD : va_D A [(a0, .inr (12, MF ad 0 0 0 (-1) v6 v7 v8 v9 vN 0 v36 v37 v38 v39 v40 v41 0 0 0 0 0)), ((ad 11), .inl (cI, 2, .inl fR)), ((ad 12), .inl (cI, 2, .inl fD)), ((ad 13), .inl (cI, 2, .inl fT)), ((ad 14), .inl (cI, 2, .inl fU)), ((ad 15), .inl (cI, 2, .inl fW)), ((ad 26), .inl (cZ, 2, .inl fS)), ((ad 27), .inl (cZ, 2, .inl fX)), ((ad 42), .inl (cI, 32, .inl fA)), ((ad 70), .inl (cZ, 3, .inl fB))] := hD
  refine lv_aload_n hx hb dX12_house_51 rfl (lv_at hl 1 rfl) ?_
  refine lv_iconst (v := 0) hx hb dX12_house_52 (by decide) ?_
  refine va_put (D := D) (ci := 12) (v := .int 0) (ty := tyX12 7) (C := RX12) (T := TX12) (N := 71) hx hb hts iw_X12_house_X12 tyX12 tyX12_ok nmX12 hown hK hP hD hS 0 rfl rfl 7 (by decide) (hts (.fieldLink RX12 213 "SoldHouseModel" "end" "I") (List.mem_of_getElem? (i := 7) rfl)) (fun _ h9 => h9) rfl (by decide +kernel) rfl rfl (Nat.le_of_ble_eq_true rfl) dX12_house_53 (fun H locs hP hD hS => ?_)
  replace hP : va_P D classes [(a0, .inr (12, MF ad 0 0 0 (-1) v6 0 v8 v9 vN 0 v36 v37 v38 v39 v40 v41 0 0 0 0 0)), ((ad 11), .inl (cI, 2, .inl fR)), ((ad 12), .inl (cI, 2, .inl fD)), ((ad 13), .inl (cI, 2, .inl fT)), ((ad 14), .inl (cI, 2, .inl fU)), ((ad 15), .inl (cI, 2, .inl fW)), ((ad 26), .inl (cZ, 2, .inl fS)), ((ad 27), .inl (cZ, 2, .inl fX)), ((ad 42), .inl (cI, 32, .inl fA)), ((ad 70), .inl (cZ, 3, .inl fB))] H := hP
  replace hD : va_D A [(a0, .inr (12, MF ad 0 0 0 (-1) v6 0 v8 v9 vN 0 v36 v37 v38 v39 v40 v41 0 0 0 0 0)), ((ad 11), .inl (cI, 2, .inl fR)), ((ad 12), .inl (cI, 2, .inl fD)), ((ad 13), .inl (cI, 2, .inl fT)), ((ad 14), .inl (cI, 2, .inl fU)), ((ad 15), .inl (cI, 2, .inl fW)), ((ad 26), .inl (cZ, 2, .inl fS)), ((ad 27), .inl (cZ, 2, .inl fX)), ((ad 42), .inl (cI, 32, .inl fA)), ((ad 70), .inl (cZ, 3, .inl fB))] := hD
  refine lv_aload_n hx hb dX12_house_56 rfl (lv_at hl 1 rfl) ?_
  refine lv_iconst (v := 1) hx hb dX12_house_57 (by decide) ?_
  refine lv_aload_n hx hb dX12_house_58 rfl (lv_at hl 1 rfl) ?_
  refine va_get (D := D) (ci := 12) (v := .int 0) (C := RX12) (T := TX12) (N := 71) hx hb hts iw_X12_house_X12 hown hK hP 0 rfl rfl 35 (by decide) (hts (.fieldLink RX12 280 "SoldHouseModel" "bank" "I") (List.mem_of_getElem? (i := 8) rfl)) (fun _ h9 => h9) rfl dX12_house_59 ?_
  refine lv_isub hx hb dX12_house_62 ?_
  refine lv_topi (fun y_2 ey_2 => ?_)
  obtain rfl : y_2 = 1 := ey_2.trans (by decide)
  refine va_put (D := D) (ci := 12) (v := .int 1) (ty := tyX12 36) (C := RX12) (T := TX12) (N := 71) hx hb hts iw_X12_house_X12 tyX12 tyX12_ok nmX12 hown hK hP hD hS 0 rfl rfl 36 (by decide) (hts (.fieldLink RX12 271 "SoldHouseModel" "rb" "I") (List.mem_of_getElem? (i := 9) rfl)) (fun _ h9 => h9) rfl (by decide +kernel) rfl rfl (Nat.le_of_ble_eq_true rfl) dX12_house_63 (fun H locs hP hD hS => ?_)
  replace hP : va_P D classes [(a0, .inr (12, MF ad 0 0 0 (-1) v6 0 v8 v9 vN 0 1 v37 v38 v39 v40 v41 0 0 0 0 0)), ((ad 11), .inl (cI, 2, .inl fR)), ((ad 12), .inl (cI, 2, .inl fD)), ((ad 13), .inl (cI, 2, .inl fT)), ((ad 14), .inl (cI, 2, .inl fU)), ((ad 15), .inl (cI, 2, .inl fW)), ((ad 26), .inl (cZ, 2, .inl fS)), ((ad 27), .inl (cZ, 2, .inl fX)), ((ad 42), .inl (cI, 32, .inl fA)), ((ad 70), .inl (cZ, 3, .inl fB))] H := hP
  replace hD : va_D A [(a0, .inr (12, MF ad 0 0 0 (-1) v6 0 v8 v9 vN 0 1 v37 v38 v39 v40 v41 0 0 0 0 0)), ((ad 11), .inl (cI, 2, .inl fR)), ((ad 12), .inl (cI, 2, .inl fD)), ((ad 13), .inl (cI, 2, .inl fT)), ((ad 14), .inl (cI, 2, .inl fU)), ((ad 15), .inl (cI, 2, .inl fW)), ((ad 26), .inl (cZ, 2, .inl fS)), ((ad 27), .inl (cZ, 2, .inl fX)), ((ad 42), .inl (cI, 32, .inl fA)), ((ad 70), .inl (cZ, 3, .inl fB))] := hD
  refine lv_aload_n hx hb dX12_house_66 rfl (lv_at hl 1 rfl) ?_
  have hPc := hP.sub (ws' := [(a0, .inr (12, MF ad 0 0 0 (-1) v6 0 v8 v9 vN 0 1 v37 v38 v39 v40 v41 0 0 0 0 0)), ((ad 11), .inl (cI, 2, .inl fR)), ((ad 12), .inl (cI, 2, .inl fD)), ((ad 13), .inl (cI, 2, .inl fT)), ((ad 14), .inl (cI, 2, .inl fU)), ((ad 15), .inl (cI, 2, .inl fW)), ((ad 26), .inl (cZ, 2, .inl fS)), ((ad 27), .inl (cZ, 2, .inl fX))]) [0, 1, 2, 3, 4, 5, 6, 7] rfl
  have hDc := hD.sub (ws' := [(a0, .inr (12, MF ad 0 0 0 (-1) v6 0 v8 v9 vN 0 1 v37 v38 v39 v40 v41 0 0 0 0 0)), ((ad 11), .inl (cI, 2, .inl fR)), ((ad 12), .inl (cI, 2, .inl fD)), ((ad 13), .inl (cI, 2, .inl fT)), ((ad 14), .inl (cI, 2, .inl fU)), ((ad 15), .inl (cI, 2, .inl fW)), ((ad 26), .inl (cZ, 2, .inl fS)), ((ad 27), .inl (cZ, 2, .inl fX))]) [0, 1, 2, 3, 4, 5, 6, 7] (by decide) rfl
  have hFc := va_free (wc := [(a0, .inr (12, MF ad 0 0 0 (-1) v6 0 v8 v9 vN 0 1 v37 v38 v39 v40 v41 0 0 0 0 0)), ((ad 11), .inl (cI, 2, .inl fR)), ((ad 12), .inl (cI, 2, .inl fD)), ((ad 13), .inl (cI, 2, .inl fT)), ((ad 14), .inl (cI, 2, .inl fU)), ((ad 15), .inl (cI, 2, .inl fW)), ((ad 26), .inl (cZ, 2, .inl fS)), ((ad 27), .inl (cZ, 2, .inl fX))]) hD hS hA [0, 1, 2, 3, 4, 5, 6, 7] rfl
  refine va_callv (va_runV (As := []) (rest := []) ⟨hx, hb, hml, hown, hts⟩ (m_clearBank1 l D cI cB cL cZ a0 ad 0 v6 0 v8 v9 v37 v38 v39 v40 v41 vN fR fD fT fU fW fS fX H.size hf_fR_0 hf_fR_1 hf_fD_0 hf_fD_1 hf_fT_0 hf_fT_1 hf_fU_0 hf_fU_1 hf_fW_0 hf_fW_1 hf_fS_0 hf_fS_1 hf_fX_0 hf_fX_1) (cwV 0 hts gX12_house_X12_clearBank rfl rfl rfl (by decide +kernel) ⟨Nat.le_of_ble_eq_true rfl, Nat.le_of_ble_eq_true rfl⟩) ⟨xp_blind, va_recv hK hPc (ci := 12) (q0 := 0) rfl rfl, fun U hU hW => xp_mk hU hW hPc hK hDc xNw_nil⟩ rfl rfl hl.1 rfl (lv_room (Nat.le_of_ble_eq_true rfl)) dX12_house_67 ⟨Nat.le_of_ble_eq_true rfl, Nat.le_of_ble_eq_true rfl⟩) hS (fun q _ h => hFc q h) hFc (fun u9 t9 H1 locs ht9 hvm9 hr_3 hB9 hz9 hk9 hS => ?_)
  obtain ⟨gR__4, gD__5, gT__6, gU__7, gW__8, gS__9, gX__10, gR__4_0, gR__4_1, gD__5_0, gD__5_1, gT__6_0, gT__6_1, gU__7_0, gU__7_1, gW__8_0, gW__8_1, gS__9_0, gS__9_1, gX__10_0, gX__10_1, hP1, hD1⟩ := hB9
  rw [ht9] at hP1
  obtain ⟨hP, hD⟩ := va_join (wr := [((ad 42), .inl (cI, 32, .inl fA)), ((ad 70), .inl (cZ, 3, .inl fB))]) (w1 := [(a0, .inr (12, MF ad 0 0 0 (-1) v6 0 v8 v9 vN 0 1 560 v38 v39 v40 v41 0 0 0 0 0)), ((ad 11), .inl (cI, 2, .inl gR__4)), ((ad 12), .inl (cI, 2, .inl gD__5)), ((ad 13), .inl (cI, 2, .inl gT__6)), ((ad 14), .inl (cI, 2, .inl gU__7)), ((ad 15), .inl (cI, 2, .inl gW__8)), ((ad 26), .inl (cZ, 2, .inl gS__9)), ((ad 27), .inl (cZ, 2, .inl gX__10))]) hP hD [0, 1, 2, 3, 4, 5, 6, 7] [8, 9] rfl rfl (by decide) (by decide) hk9 hFc hP1 hD1
  clear hz9 hPc hDc hP1 hD1
  clear hk9 hFc ht9 hvm9
  generalize H1 = H at hP hS ⊢
  replace hP : va_P D classes [((ad 42), .inl (cI, 32, .inl fA)), ((ad 70), .inl (cZ, 3, .inl fB)), (a0, .inr (12, MF ad 0 0 0 (-1) v6 0 v8 v9 vN 0 1 560 v38 v39 v40 v41 0 0 0 0 0)), ((ad 11), .inl (cI, 2, .inl gR__4)), ((ad 12), .inl (cI, 2, .inl gD__5)), ((ad 13), .inl (cI, 2, .inl gT__6)), ((ad 14), .inl (cI, 2, .inl gU__7)), ((ad 15), .inl (cI, 2, .inl gW__8)), ((ad 26), .inl (cZ, 2, .inl gS__9)), ((ad 27), .inl (cZ, 2, .inl gX__10))] H := hP
  replace hD : va_D A [((ad 42), .inl (cI, 32, .inl fA)), ((ad 70), .inl (cZ, 3, .inl fB)), (a0, .inr (12, MF ad 0 0 0 (-1) v6 0 v8 v9 vN 0 1 560 v38 v39 v40 v41 0 0 0 0 0)), ((ad 11), .inl (cI, 2, .inl gR__4)), ((ad 12), .inl (cI, 2, .inl gD__5)), ((ad 13), .inl (cI, 2, .inl gT__6)), ((ad 14), .inl (cI, 2, .inl gU__7)), ((ad 15), .inl (cI, 2, .inl gW__8)), ((ad 26), .inl (cZ, 2, .inl gS__9)), ((ad 27), .inl (cZ, 2, .inl gX__10))] := hD
  refine lv_aload_n hx hb dX12_house_70 rfl (lv_at hl 1 rfl) ?_
  have hPc := hP.sub (ws' := [(a0, .inr (12, MF ad 0 0 0 (-1) v6 0 v8 v9 vN 0 1 560 v38 v39 v40 v41 0 0 0 0 0))]) [2] rfl
  have hDc := hD.sub (ws' := [(a0, .inr (12, MF ad 0 0 0 (-1) v6 0 v8 v9 vN 0 1 560 v38 v39 v40 v41 0 0 0 0 0))]) [2] (by decide) rfl
  have hFc := va_free (wc := [(a0, .inr (12, MF ad 0 0 0 (-1) v6 0 v8 v9 vN 0 1 560 v38 v39 v40 v41 0 0 0 0 0))]) hD hS hA [2] rfl
  refine va_callv (va_runV (As := []) (rest := []) ⟨hx, hb, hml, hown, hts⟩ (m_goOn l D cI cB cL cZ a0 ad v6 v8 v9 560 v38 v39 v40 v41 vN H.size) (cwV 0 hts gX12_house_X12_goOn rfl rfl rfl (by decide +kernel) ⟨Nat.le_of_ble_eq_true rfl, Nat.le_of_ble_eq_true rfl⟩) ⟨xp_blind, va_recv hK hPc (ci := 12) (q0 := 0) rfl rfl, fun U hU hW => xp_mk hU hW hPc hK hDc xNw_nil⟩ rfl rfl hl.1 rfl (lv_room (Nat.le_of_ble_eq_true rfl)) dX12_house_71 ⟨Nat.le_of_ble_eq_true rfl, Nat.le_of_ble_eq_true rfl⟩) hS (fun q _ h => hFc q h) hFc (fun u9 t9 H1 locs ht9 hvm9 hr_11 hB9 hz9 hk9 hS => ?_)
  obtain ⟨hP1, hD1⟩ := hB9
  rw [ht9] at hP1
  obtain ⟨hP, hD⟩ := va_join (wr := [((ad 42), .inl (cI, 32, .inl fA)), ((ad 70), .inl (cZ, 3, .inl fB)), ((ad 11), .inl (cI, 2, .inl gR__4)), ((ad 12), .inl (cI, 2, .inl gD__5)), ((ad 13), .inl (cI, 2, .inl gT__6)), ((ad 14), .inl (cI, 2, .inl gU__7)), ((ad 15), .inl (cI, 2, .inl gW__8)), ((ad 26), .inl (cZ, 2, .inl gS__9)), ((ad 27), .inl (cZ, 2, .inl gX__10))]) (w1 := [(a0, .inr (12, MF ad 0 0 0 (-1) 0 0 0 v9 vN 0 1 560 v38 v39 v40 v41 0 0 0 0 0))]) hP hD [2] [0, 1, 3, 4, 5, 6, 7, 8, 9] rfl rfl (by decide) (by decide) hk9 hFc hP1 hD1
  clear hz9 hPc hDc hP1 hD1
  clear hk9 hFc ht9 hvm9
  generalize H1 = H at hP hS ⊢
  replace hP : va_P D classes [((ad 42), .inl (cI, 32, .inl fA)), ((ad 70), .inl (cZ, 3, .inl fB)), ((ad 11), .inl (cI, 2, .inl gR__4)), ((ad 12), .inl (cI, 2, .inl gD__5)), ((ad 13), .inl (cI, 2, .inl gT__6)), ((ad 14), .inl (cI, 2, .inl gU__7)), ((ad 15), .inl (cI, 2, .inl gW__8)), ((ad 26), .inl (cZ, 2, .inl gS__9)), ((ad 27), .inl (cZ, 2, .inl gX__10)), (a0, .inr (12, MF ad 0 0 0 (-1) 0 0 0 v9 vN 0 1 560 v38 v39 v40 v41 0 0 0 0 0))] H := hP
  replace hD : va_D A [((ad 42), .inl (cI, 32, .inl fA)), ((ad 70), .inl (cZ, 3, .inl fB)), ((ad 11), .inl (cI, 2, .inl gR__4)), ((ad 12), .inl (cI, 2, .inl gD__5)), ((ad 13), .inl (cI, 2, .inl gT__6)), ((ad 14), .inl (cI, 2, .inl gU__7)), ((ad 15), .inl (cI, 2, .inl gW__8)), ((ad 26), .inl (cZ, 2, .inl gS__9)), ((ad 27), .inl (cZ, 2, .inl gX__10)), (a0, .inr (12, MF ad 0 0 0 (-1) 0 0 0 v9 vN 0 1 560 v38 v39 v40 v41 0 0 0 0 0))] := hD
  refine lv_aload_n hx hb dX12_house_74 rfl (lv_at hl 1 rfl) ?_
  have hPc := hP.sub (ws' := [(a0, .inr (12, MF ad 0 0 0 (-1) 0 0 0 v9 vN 0 1 560 v38 v39 v40 v41 0 0 0 0 0))]) [9] rfl
  refine vp_callSi (va_runV (As := []) (rest := []) ⟨hx, hb, hml, hown, hts⟩ (m_isGood l D cI cB cL cZ a0 ad 0 0 0 0 v9 560 v38 v39 v40 v41 vN) (cwV 0 hts gX12_house_X12_isGood rfl rfl rfl (by decide +kernel) ⟨Nat.le_of_ble_eq_true rfl, Nat.le_of_ble_eq_true rfl⟩) ⟨xr_blind, va_recv hK hPc (ci := 12) (q0 := 0) rfl rfl, fun U hU hW => xr_mk hU hW hPc hK⟩ rfl rfl hl.1 rfl (lv_room (Nat.le_of_ble_eq_true rfl)) dX12_house_75 ⟨Nat.le_of_ble_eq_true rfl, Nat.le_of_ble_eq_true rfl⟩).run (fun r_12 hr_12 => ?_)
  clear hPc
  subst hr_12
  refine lv_if_eq (tgt := 95) hx hb dX12_house_78 (by decide) (fun c_13 => absurd c_13 (by decide)) (fun _ => ?_)
  refine lv_aload_n hx hb dX12_house_81 rfl (lv_at hl 1 rfl) ?_
  refine va_get (D := D) (ci := 12) (v := .int 0) (C := RX12) (T := TX12) (N := 71) hx hb hts iw_X12_house_X12 hown hK hP 9 rfl rfl 8 (by decide) (hts (.fieldLink RX12 223 "SoldHouseModel" "token" "I") (List.mem_of_getElem? (i := 10) rfl)) (fun _ h9 => h9) rfl dX12_house_82 ?_
  refine lv_if_eq (tgt := 95) hx hb dX12_house_85 (by decide) (fun _ => ?_) (fun c_14 => absurd (by decide) c_14)
  refine lv_aload_n hx hb dX12_house_95 rfl (lv_at hl 1 rfl) ?_
  have hPc := hP.sub (ws' := [(a0, .inr (12, MF ad 0 0 0 (-1) 0 0 0 v9 vN 0 1 560 v38 v39 v40 v41 0 0 0 0 0))]) [9] rfl
  refine vp_callSi (va_runV (As := []) (rest := []) ⟨hx, hb, hml, hown, hts⟩ (m_isGood l D cI cB cL cZ a0 ad 0 0 0 0 v9 560 v38 v39 v40 v41 vN) (cwV 0 hts gX12_house_X12_isGood rfl rfl rfl (by decide +kernel) ⟨Nat.le_of_ble_eq_true rfl, Nat.le_of_ble_eq_true rfl⟩) ⟨xr_blind, va_recv hK hPc (ci := 12) (q0 := 0) rfl rfl, fun U hU hW => xr_mk hU hW hPc hK⟩ rfl rfl hl.1 rfl (lv_room (Nat.le_of_ble_eq_true rfl)) dX12_house_96 ⟨Nat.le_of_ble_eq_true rfl, Nat.le_of_ble_eq_true rfl⟩).run (fun r_15 hr_15 => ?_)
  clear hPc
  subst hr_15
  refine lv_if_ne (tgt := 104) hx hb dX12_house_99 (by decide) (fun _ => ?_) (fun c_16 => absurd c_16 (by decide))
  refine lv_aload_n hx hb dX12_house_104 rfl (lv_at hl 1 rfl) ?_
  refine lv_aload_n hx hb dX12_house_105 rfl (lv_at hl 1 rfl) ?_
  refine va_get (D := D) (ci := 12) (v := .int 1) (C := RX12) (T := TX12) (N := 71) hx hb hts iw_X12_house_X12 hown hK hP 9 rfl rfl 36 (by decide) (hts (.fieldLink RX12 271 "SoldHouseModel" "rb" "I") (List.mem_of_getElem? (i := 9) rfl)) (fun _ h9 => h9) rfl dX12_house_106 ?_
  refine va_put (D := D) (ci := 12) (v := .int 1) (ty := tyX12 35) (C := RX12) (T := TX12) (N := 71) hx hb hts iw_X12_house_X12 tyX12 tyX12_ok nmX12 hown hK hP hD hS 9 rfl rfl 35 (by decide) (hts (.fieldLink RX12 280 "SoldHouseModel" "bank" "I") (List.mem_of_getElem? (i := 8) rfl)) (fun _ h9 => h9) rfl (by decide +kernel) rfl rfl (Nat.le_of_ble_eq_true rfl) dX12_house_109 (fun H locs hP hD hS => ?_)
  replace hP : va_P D classes [((ad 42), .inl (cI, 32, .inl fA)), ((ad 70), .inl (cZ, 3, .inl fB)), ((ad 11), .inl (cI, 2, .inl gR__4)), ((ad 12), .inl (cI, 2, .inl gD__5)), ((ad 13), .inl (cI, 2, .inl gT__6)), ((ad 14), .inl (cI, 2, .inl gU__7)), ((ad 15), .inl (cI, 2, .inl gW__8)), ((ad 26), .inl (cZ, 2, .inl gS__9)), ((ad 27), .inl (cZ, 2, .inl gX__10)), (a0, .inr (12, MF ad 0 0 0 (-1) 0 0 0 v9 vN 1 1 560 v38 v39 v40 v41 0 0 0 0 0))] H := hP
  replace hD : va_D A [((ad 42), .inl (cI, 32, .inl fA)), ((ad 70), .inl (cZ, 3, .inl fB)), ((ad 11), .inl (cI, 2, .inl gR__4)), ((ad 12), .inl (cI, 2, .inl gD__5)), ((ad 13), .inl (cI, 2, .inl gT__6)), ((ad 14), .inl (cI, 2, .inl gU__7)), ((ad 15), .inl (cI, 2, .inl gW__8)), ((ad 26), .inl (cZ, 2, .inl gS__9)), ((ad 27), .inl (cZ, 2, .inl gX__10)), (a0, .inr (12, MF ad 0 0 0 (-1) 0 0 0 v9 vN 1 1 560 v38 v39 v40 v41 0 0 0 0 0))] := hD
  refine lv_aload_n hx hb dX12_house_112 rfl (lv_at hl 1 rfl) ?_
  have hPc := hP.sub (ws' := [(a0, .inr (12, MF ad 0 0 0 (-1) 0 0 0 v9 vN 1 1 560 v38 v39 v40 v41 0 0 0 0 0)), ((ad 11), .inl (cI, 2, .inl gR__4)), ((ad 12), .inl (cI, 2, .inl gD__5)), ((ad 13), .inl (cI, 2, .inl gT__6)), ((ad 15), .inl (cI, 2, .inl gW__8)), ((ad 42), .inl (cI, 32, .inl fA)), ((ad 70), .inl (cZ, 3, .inl fB))]) [9, 2, 3, 4, 6, 0, 1] rfl
  have hDc := hD.sub (ws' := [(a0, .inr (12, MF ad 0 0 0 (-1) 0 0 0 v9 vN 1 1 560 v38 v39 v40 v41 0 0 0 0 0)), ((ad 11), .inl (cI, 2, .inl gR__4)), ((ad 12), .inl (cI, 2, .inl gD__5)), ((ad 13), .inl (cI, 2, .inl gT__6)), ((ad 15), .inl (cI, 2, .inl gW__8)), ((ad 42), .inl (cI, 32, .inl fA)), ((ad 70), .inl (cZ, 3, .inl fB))]) [9, 2, 3, 4, 6, 0, 1] (by decide) rfl
  have hFc := va_free (wc := [(a0, .inr (12, MF ad 0 0 0 (-1) 0 0 0 v9 vN 1 1 560 v38 v39 v40 v41 0 0 0 0 0)), ((ad 11), .inl (cI, 2, .inl gR__4)), ((ad 12), .inl (cI, 2, .inl gD__5)), ((ad 13), .inl (cI, 2, .inl gT__6)), ((ad 15), .inl (cI, 2, .inl gW__8)), ((ad 42), .inl (cI, 32, .inl fA)), ((ad 70), .inl (cZ, 3, .inl fB))]) hD hS hA [9, 2, 3, 4, 6, 0, 1] rfl
  refine va_callv (va_runV (As := []) (rest := []) ⟨hx, hb, hml, hown, hts⟩ (m_startAnew1 l D cI cB cL cZ a0 ad 0 0 0 0 v9 1 560 v38 v39 v40 v41 vN gR__4 gD__5 gT__6 gW__8 fA fB H.size gR__4_1 gD__5_1 gT__6_1 gW__8_1 hf_fA_30 hf_fA_31) (cwV 0 hts gX12_house_X12_startAnew rfl rfl rfl (by decide +kernel) ⟨Nat.le_of_ble_eq_true rfl, Nat.le_of_ble_eq_true rfl⟩) ⟨xp_blind, va_recv hK hPc (ci := 12) (q0 := 0) rfl rfl, fun U hU hW => xp_mk hU hW hPc hK hDc xNw_nil⟩ rfl rfl hl.1 rfl (lv_room (Nat.le_of_ble_eq_true rfl)) dX12_house_113 ⟨Nat.le_of_ble_eq_true rfl, Nat.le_of_ble_eq_true rfl⟩) hS (fun q _ h => hFc q h) hFc (fun u9 t9 H1 locs ht9 hvm9 hr_17 hB9 hz9 hk9 hS => ?_)
  obtain ⟨gA__18, gB__19, gA__18_30, gA__18_31, gB__19_0, gB__19_1, gB__19_2, hP1, hD1⟩ := hB9
  rw [ht9] at hP1
  obtain ⟨hP, hD⟩ := va_join (wr := [((ad 14), .inl (cI, 2, .inl gU__7)), ((ad 26), .inl (cZ, 2, .inl gS__9)), ((ad 27), .inl (cZ, 2, .inl gX__10))]) (w1 := [(a0, .inr (12, MF ad 0 0 0 (-1) 0 0 0 v9 vN 1 1 560 v38 v39 v40 v41 0 0 0 0 0)), ((ad 11), .inl (cI, 2, .inl gR__4)), ((ad 12), .inl (cI, 2, .inl gD__5)), ((ad 13), .inl (cI, 2, .inl gT__6)), ((ad 15), .inl (cI, 2, .inl gW__8)), ((ad 42), .inl (cI, 32, .inl gA__18)), ((ad 70), .inl (cZ, 3, .inl gB__19))]) hP hD [9, 2, 3, 4, 6, 0, 1] [5, 7, 8] rfl rfl (by decide) (by decide) hk9 hFc hP1 hD1
  clear hz9 hPc hDc hP1 hD1
  clear hk9 hFc ht9 hvm9
  generalize H1 = H at hP hS ⊢
  replace hP : va_P D classes [((ad 14), .inl (cI, 2, .inl gU__7)), ((ad 26), .inl (cZ, 2, .inl gS__9)), ((ad 27), .inl (cZ, 2, .inl gX__10)), (a0, .inr (12, MF ad 0 0 0 (-1) 0 0 0 v9 vN 1 1 560 v38 v39 v40 v41 0 0 0 0 0)), ((ad 11), .inl (cI, 2, .inl gR__4)), ((ad 12), .inl (cI, 2, .inl gD__5)), ((ad 13), .inl (cI, 2, .inl gT__6)), ((ad 15), .inl (cI, 2, .inl gW__8)), ((ad 42), .inl (cI, 32, .inl gA__18)), ((ad 70), .inl (cZ, 3, .inl gB__19))] H := hP
  replace hD : va_D A [((ad 14), .inl (cI, 2, .inl gU__7)), ((ad 26), .inl (cZ, 2, .inl gS__9)), ((ad 27), .inl (cZ, 2, .inl gX__10)), (a0, .inr (12, MF ad 0 0 0 (-1) 0 0 0 v9 vN 1 1 560 v38 v39 v40 v41 0 0 0 0 0)), ((ad 11), .inl (cI, 2, .inl gR__4)), ((ad 12), .inl (cI, 2, .inl gD__5)), ((ad 13), .inl (cI, 2, .inl gT__6)), ((ad 15), .inl (cI, 2, .inl gW__8)), ((ad 42), .inl (cI, 32, .inl gA__18)), ((ad 70), .inl (cZ, 3, .inl gB__19))] := hD
  refine lv_aload_n hx hb dX12_house_116 rfl (lv_at hl 1 rfl) ?_
  refine va_get (D := D) (ci := 12) (v := .ref (ad 11)) (C := RX12) (T := TX12) (N := 71) hx hb hts iw_X12_house_X12 hown hK hP 3 rfl rfl 11 (by decide) (hts (.fieldLink RX12 20 "SoldHouseModel" "rooms" "[I") (List.mem_of_getElem? (i := 11) rfl)) (fun _ h9 => h9) rfl dX12_house_117 ?_
  refine lv_aload_n hx hb dX12_house_120 rfl (lv_at hl 1 rfl) ?_
  refine va_get (D := D) (ci := 12) (v := .int 1) (C := RX12) (T := TX12) (N := 71) hx hb hts iw_X12_house_X12 hown hK hP 3 rfl rfl 35 (by decide) (hts (.fieldLink RX12 280 "SoldHouseModel" "bank" "I") (List.mem_of_getElem? (i := 8) rfl)) (fun _ h9 => h9) rfl dX12_house_121 ?_
  refine va_iald hx hb hK hP 4 0 rfl rfl (show vp_in 1 2 from (by decide : ¬ ((1 : Int32) < 0 ∨ 2 ≤ Int32.toNatClampNeg 1))) dX12_house_124 ?_
  refine lv_topi (fun y_20 ey_20 => ?_)
  obtain rfl : y_20 = 0 := ey_20.trans gR__4_1
  refine W.widen (k := 0) (n := 0) (Nat.le_of_ble_eq_true rfl) (Nat.le_of_ble_eq_true rfl) ?_
  exact W.iret (v := 0) hx hb hr (fun t ht hW => ⟨⟨0, (), rfl, rfl, trivial⟩, hS.F ht⟩) hS.2.2 dX12_house_125
