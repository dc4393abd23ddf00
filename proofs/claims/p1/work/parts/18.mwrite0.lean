set_option maxHeartbeats 4000000 in
set_option maxRecDepth 100000 in
theorem m_feed (l : Launch) (D : va_G) (cI : ClassId) (cB : ClassId) (cL : ClassId) (cZ : ClassId) (a0 : Nat) (ad : Nat → Nat) (v3 : Int32) (v6 : Int32) (v7 : Int32) (v8 : Int32) (v9 : Int32) (v36 : Int32) (v37 : Int32) (v38 : Int32) (v39 : Int32) (v40 : Int32) (v41 : Int32) (vN : Int64) (ft : Nat → Int32) (x1 : Int32) (x2 : Int32) (x3 : Int32) (x4 : Int32) (x5 : Int32) (sz : Nat) : Met l yX12_feed wsX12_feed ({ frames := 0, cells := 0, slots := 0, locals := 0 }) (xp D [(cI, .int), (cB, .byte), (cL, .long), (cZ, .boolean)] [(a0, .inr (12, MF ad 0 v3 0 (-1) v6 v7 v8 v9 vN 0 v36 v37 v38 v39 v40 v41 0 0 0 0 0)), ((ad 0), .inl (cB, 1620, .inl ft))] sz [] [.ref a0, .int x1, .int x2, .int x3, .int x4, .int x5]) (va_Qi (fun (r : Int32) (_ : Unit) => r = 20) (fun (_ : Unit) (_ : State) => True) (va_A [(a0, .inr (12, MF ad 0 v3 0 (-1) v6 v7 v8 v9 vN 0 v36 v37 v38 v39 v40 v41 0 0 0 0 0)), ((ad 0), .inl (cB, 1620, .inl ft))] sz)) 0 0 (va_A [(a0, .inr (12, MF ad 0 v3 0 (-1) v6 v7 v8 v9 vN 0 v36 v37 v38 v39 v40 v41 0 0 0 0 0)), ((ad 0), .inl (cB, 1620, .inl ft))] sz) := by
  refine Met.ofW (cc := cX12_feed) (maxL := 8) (ret := (some .int)) (by decide) rfl ?_
  intro p e s m args below meth c s₁ B hml hv
  obtain ⟨rfl, hsz, hP, hK, hD0, hNw⟩ := hv
  have hx := B.exec
  have hb := B.bytes
  have hr := B.returns
  have hts := atoms_spec (ws := wsX12_feed) B.pre
  have hown : s.vm.findClass RX12 = some m.cls := findClass_of_methodNamed B.named
  have hlocks := B.notSynchronized
  subst hsz
  have hD := hD0.self (sz := s.heap.size)
  clear hD0
  generalize hAe : va_A [(a0, .inr (12, MF ad 0 v3 0 (-1) v6 v7 v8 v9 vN 0 v36 v37 v38 v39 v40 v41 0 0 0 0 0)), ((ad 0), .inl (cB, 1620, .inl ft))] s.heap.size = A at hD ⊢
  have hA : ∀ q : Nat, s.heap.size ≤ q → A q := fun q h => by rw [← hAe]; exact Or.inr h
  have hS : va_S A s.heap s.heap [] := va_S.rf
  clear hAe
  obtain ⟨H, hH⟩ : ∃ H : Heap, H = s.heap := ⟨_, rfl⟩
  obtain ⟨locs, hlocs⟩ : ∃ L : List Loc, L = [] := ⟨_, rfl⟩
  replace hP : va_P D classes [(a0, .inr (12, MF ad 0 v3 0 (-1) v6 v7 v8 v9 vN 0 v36 v37 v38 v39 v40 v41 0 0 0 0 0)), ((ad 0), .inl (cB, 1620, .inl ft))] H := by rw [hH]; exact hP
  replace hS : va_S A s.heap H locs := by rw [hH, hlocs]; exact hS
  rw [← hH, ← hlocs]
  clear hlocs hH
  have hl := lv_entry ([.ref a0, .int x1, .int x2, .int x3, .int x4, .int x5]) (n := 8) (Nat.le_of_ble_eq_true rfl)
  rw [lg_entry_eq]
  generalize (lg_sl ([.ref a0, .int x1, .int x2, .int x3, .int x4, .int x5]) ++ List.replicate (8 - (lg_sl ([.ref a0, .int x1, .int x2, .int x3, .int x4, .int x5])).length) Slot.unset).toArray = ls at hl ⊢
  replace hl : lv_has ls 8 [(0, .ref a0), (1, .int x1), (2, .int x2), (3, .int x3), (4, .int x4), (5, .int x5)] := hl
  refine lv_aload_n hx hb dX12_feed_0 rfl (lv_at hl 0 rfl) ?_
  refine va_get (D := D) (ci := 12) (v := .int 0) (C := RX12) (T := TX12) (N := 71) hx hb hts iw_X12_feed_X12 hown hK hP 0 rfl rfl 2 (by decide) (hts (.fieldLink RX12 277 "SoldHouseModel" "taped" "I") (List.mem_of_getElem? (i := 1) rfl)) (fun _ h9 => h9) rfl dX12_feed_1 ?_
  refine lv_bipush (v := 20) hx hb dX12_feed_4 (by decide) ?_
  refine lv_iadd hx hb dX12_feed_6 ?_
  refine lv_topi (fun y_1 ey_1 => ?_)
  obtain rfl : y_1 = 20 := ey_1.trans (by decide)
  refine lv_sipush (v := 1600) hx hb dX12_feed_7 (by decide) ?_
  refine lv_icmp_le (tgt := 15) hx hb dX12_feed_10 (by decide) (fun _ => ?_) (fun c_2 => absurd (by decide) c_2)
  refine lv_iconst (v := 0) hx hb dX12_feed_15 (by decide) ?_
  refine lv_istore (lv' := [(6, .int 0), (0, .ref a0), (1, .int x1), (2, .int x2), (3, .int x3), (4, .int x4), (5, .int x5)]) hx hb dX12_feed_16 hl (by decide) rfl (fun ls hl => ?_)
  obtain ⟨i18, hi18⟩ : ∃ i : Nat, i = 0 := ⟨0, rfl⟩
  replace hl : lv_has ls 8 [(6, .int (nI i18)), (0, .ref a0), (1, .int x1), (2, .int x2), (3, .int x3), (4, .int x4), (5, .int x5)] := by
    rw [hi18]; exact hl
  obtain ⟨g_3, eg_3⟩ : ∃ g : Nat → Int32, g = ft := ⟨_, rfl⟩
  rw [← eg_3] at hP hD
  clear eg_3
  have hle_i18 : i18 ≤ 20 := by omega
  obtain ⟨n18, hnn18⟩ : ∃ n : Nat, 20 + 1 ≤ i18 + n := ⟨20 + 1, by omega⟩
  clear hi18
  induction n18 generalizing i18 H locs ls g_3 with
  | zero => omega
  | succ n18 ih18 =>
    refine lv_iload hx hb dX12_feed_18 (lv_at hl 0 rfl) ?_
    refine lv_bipush (v := 20) hx hb dX12_feed_20 (by decide) ?_
    refine lv_icmp_ge (tgt := 105) hx hb dX12_feed_22 (by decide) (fun c_4 => ?_) (fun c_4 => ?_)
    · refine lv_aload_n hx hb dX12_feed_105 rfl (lv_at hl 1 rfl) ?_
      refine lv_dup hx hb dX12_feed_106 rfl ?_
      refine va_get (D := D) (ci := 12) (v := .int 0) (C := RX12) (T := TX12) (N := 71) hx hb hts iw_X12_feed_X12 hown hK hP 0 rfl rfl 2 (by decide) (hts (.fieldLink RX12 277 "SoldHouseModel" "taped" "I") (List.mem_of_getElem? (i := 1) rfl)) (fun _ h9 => h9) rfl dX12_feed_107 ?_
      refine lv_bipush (v := 20) hx hb dX12_feed_110 (by decide) ?_
      refine lv_iadd hx hb dX12_feed_112 ?_
      refine lv_topi (fun y_5 ey_5 => ?_)
      obtain rfl : y_5 = 20 := ey_5.trans (by decide)
      refine va_put (D := D) (ci := 12) (v := .int 20) (ty := tyX12 2) (C := RX12) (T := TX12) (N := 71) hx hb hts iw_X12_feed_X12 tyX12 tyX12_ok nmX12 hown hK hP hD hS 0 rfl rfl 2 (by decide) (hts (.fieldLink RX12 277 "SoldHouseModel" "taped" "I") (List.mem_of_getElem? (i := 1) rfl)) (fun _ h9 => h9) rfl (by decide +kernel) rfl rfl (Nat.le_of_ble_eq_true rfl) dX12_feed_113 (fun H locs hP hD hS => ?_)
      replace hP : va_P D classes [(a0, .inr (12, MF ad 20 v3 0 (-1) v6 v7 v8 v9 vN 0 v36 v37 v38 v39 v40 v41 0 0 0 0 0)), ((ad 0), .inl (cB, 1620, .inl g_3))] H := hP
      replace hD : va_D A [(a0, .inr (12, MF ad 20 v3 0 (-1) v6 v7 v8 v9 vN 0 v36 v37 v38 v39 v40 v41 0 0 0 0 0)), ((ad 0), .inl (cB, 1620, .inl g_3))] := hD
      refine lv_aload_n hx hb dX12_feed_116 rfl (lv_at hl 1 rfl) ?_
      refine va_get (D := D) (ci := 12) (v := .int 20) (C := RX12) (T := TX12) (N := 71) hx hb hts iw_X12_feed_X12 hown hK hP 0 rfl rfl 2 (by decide) (hts (.fieldLink RX12 277 "SoldHouseModel" "taped" "I") (List.mem_of_getElem? (i := 1) rfl)) (fun _ h9 => h9) rfl dX12_feed_117 ?_
      refine W.widen (k := 0) (n := 0) (Nat.le_of_ble_eq_true rfl) (Nat.le_of_ble_eq_true rfl) ?_
      exact W.iret (v := 20) hx hb hr (fun t ht hW => ⟨⟨20, (), rfl, rfl, trivial⟩, hS.F ht⟩) hS.2.2 dX12_feed_120
    · have hlt_i18 : i18 < 20 := by
        rcases Nat.lt_or_ge i18 20 with q | q
        · exact q
        · exact absurd (nI_le q (by omega)) c_4
      refine lv_iload hx hb dX12_feed_25 (lv_at hl 0 rfl) ?_
      refine lv_iconst (v := 4) hx hb dX12_feed_27 (by decide) ?_
      refine lv_icmp_ge (tgt := 35) hx hb dX12_feed_28 (by decide) (fun c_6 => ?_) (fun c_6 => ?_)
      · refine lv_iload hx hb dX12_feed_35 (lv_at hl 0 rfl) ?_
        refine lv_bipush (v := 8) hx hb dX12_feed_37 (by decide) ?_
        refine lv_icmp_ge (tgt := 46) hx hb dX12_feed_39 (by decide) (fun c_7 => ?_) (fun c_7 => ?_)
        · refine lv_iload hx hb dX12_feed_46 (lv_at hl 0 rfl) ?_
          refine lv_bipush (v := 12) hx hb dX12_feed_48 (by decide) ?_
          refine lv_icmp_ge (tgt := 57) hx hb dX12_feed_50 (by decide) (fun c_8 => ?_) (fun c_8 => ?_)
          · refine lv_iload hx hb dX12_feed_57 (lv_at hl 0 rfl) ?_
            refine lv_bipush (v := 16) hx hb dX12_feed_59 (by decide) ?_
            refine lv_icmp_ge (tgt := 69) hx hb dX12_feed_61 (by decide) (fun c_9 => ?_) (fun c_9 => ?_)
            · refine lv_iload hx hb dX12_feed_69 (lv_at hl 6 rfl) ?_
              refine lv_istore (lv' := [(7, .int x5), (6, .int (nI i18)), (0, .ref a0), (1, .int x1), (2, .int x2), (3, .int x3), (4, .int x4), (5, .int x5)]) hx hb dX12_feed_71 hl (by decide) rfl (fun ls hl => ?_)
              refine lv_aload_n hx hb dX12_feed_73 rfl (lv_at hl 2 rfl) ?_
              refine va_get (D := D) (ci := 12) (v := .ref (ad 0)) (C := RX12) (T := TX12) (N := 71) hx hb hts iw_X12_feed_X12 hown hK hP 0 rfl rfl 0 (by decide) (hts (.fieldLink RX12 7 "SoldHouseModel" "tape" "[B") (List.mem_of_getElem? (i := 2) rfl)) (fun _ h9 => h9) rfl dX12_feed_74 ?_
              refine lv_aload_n hx hb dX12_feed_77 rfl (lv_at hl 2 rfl) ?_
              refine va_get (D := D) (ci := 12) (v := .int 0) (C := RX12) (T := TX12) (N := 71) hx hb hts iw_X12_feed_X12 hown hK hP 0 rfl rfl 2 (by decide) (hts (.fieldLink RX12 277 "SoldHouseModel" "taped" "I") (List.mem_of_getElem? (i := 1) rfl)) (fun _ h9 => h9) rfl dX12_feed_78 ?_
              refine lv_iload hx hb dX12_feed_81 (lv_at hl 1 rfl) ?_
              refine lv_iadd hx hb dX12_feed_83 ?_
              refine lv_topi (fun y_10 ey_10 => ?_)
              rw [Int32.zero_add] at ey_10
              replace ey_10 := ey_10.symm
              subst ey_10
              refine lv_iload hx hb dX12_feed_84 (lv_at hl 0 rfl) ?_
              refine lv_bipush (v := 24) hx hb dX12_feed_86 (by decide) ?_
              refine lv_bipush (v := 8) hx hb dX12_feed_88 (by decide) ?_
              refine lv_iload hx hb dX12_feed_90 (lv_at hl 1 rfl) ?_
              refine lv_iconst (v := 3) hx hb dX12_feed_92 (by decide) ?_
              refine lv_iand hx hb dX12_feed_93 ?_
              refine lv_topi (fun y_11 ey_11 => ?_)
              refine lv_imul hx hb dX12_feed_94 ?_
              refine lv_topi (fun y_12 ey_12 => ?_)
              refine lv_isub hx hb dX12_feed_95 ?_
              refine lv_topi (fun y_13 ey_13 => ?_)
              refine lv_ishr hx hb dX12_feed_96 ?_
              refine lv_topi (fun y_14 ey_14 => ?_)
              refine lv_i2b hx hb dX12_feed_97 rfl ?_
              refine lv_topi (fun y_15 ey_15 => ?_)
              refine va_bast hx hb hK hP hD hS 1 1 rfl rfl (vp_in_nI (by omega) (by decide)) dX12_feed_98 (fun H locs hP hD hS => ?_)
              replace hP : va_P D classes [(a0, .inr (12, MF ad 0 v3 0 (-1) v6 v7 v8 v9 vN 0 v36 v37 v38 v39 v40 v41 0 0 0 0 0)), ((ad 0), .inl (cB, 1620, .inl (upd g_3 (Int32.toNatClampNeg (nI i18)) (vp_nar .byte y_15))))] H := hP
              replace hD : va_D A [(a0, .inr (12, MF ad 0 v3 0 (-1) v6 v7 v8 v9 vN 0 v36 v37 v38 v39 v40 v41 0 0 0 0 0)), ((ad 0), .inl (cB, 1620, .inl (upd g_3 (Int32.toNatClampNeg (nI i18)) (vp_nar .byte y_15))))] := hD
              generalize eg_16 : upd g_3 (Int32.toNatClampNeg (nI i18)) (vp_nar .byte y_15) = g_16 at hP hD
              clear eg_16
              refine lv_iinc (v := nI (i18 + 1)) (lv' := [(6, .int (nI (i18 + 1))), (7, .int x5), (0, .ref a0), (1, .int x1), (2, .int x2), (3, .int x3), (4, .int x4), (5, .int x5)]) hx hb dX12_feed_99 hl (k := 1) rfl (nI_1 i18) (by decide) rfl (fun ls hl => ?_)
              refine lv_goto (tgt := 18) hx hb dX12_feed_102 (by decide) ?_
              replace hl : lv_has ls 8 [(6, .int (nI (i18 + 1))), (0, .ref a0), (1, .int x1), (2, .int x2), (3, .int x3), (4, .int x4), (5, .int x5)] := lv_sub hl [0, 2, 3, 4, 5, 6, 7] rfl
              apply ih18 (i18 := (i18 + 1)) (H := H) (locs := locs) (ls := ls) (g_3 := (g_16)) <;> first | assumption | omega
            · refine lv_iload hx hb dX12_feed_64 (lv_at hl 5 rfl) ?_
              refine lv_goto (tgt := 71) hx hb dX12_feed_66 (by decide) ?_
              refine lv_istore (lv' := [(7, .int x4), (6, .int (nI i18)), (0, .ref a0), (1, .int x1), (2, .int x2), (3, .int x3), (4, .int x4), (5, .int x5)]) hx hb dX12_feed_71 hl (by decide) rfl (fun ls hl => ?_)
              refine lv_aload_n hx hb dX12_feed_73 rfl (lv_at hl 2 rfl) ?_
              refine va_get (D := D) (ci := 12) (v := .ref (ad 0)) (C := RX12) (T := TX12) (N := 71) hx hb hts iw_X12_feed_X12 hown hK hP 0 rfl rfl 0 (by decide) (hts (.fieldLink RX12 7 "SoldHouseModel" "tape" "[B") (List.mem_of_getElem? (i := 2) rfl)) (fun _ h9 => h9) rfl dX12_feed_74 ?_
              refine lv_aload_n hx hb dX12_feed_77 rfl (lv_at hl 2 rfl) ?_
              refine va_get (D := D) (ci := 12) (v := .int 0) (C := RX12) (T := TX12) (N := 71) hx hb hts iw_X12_feed_X12 hown hK hP 0 rfl rfl 2 (by decide) (hts (.fieldLink RX12 277 "SoldHouseModel" "taped" "I") (List.mem_of_getElem? (i := 1) rfl)) (fun _ h9 => h9) rfl dX12_feed_78 ?_
              refine lv_iload hx hb dX12_feed_81 (lv_at hl 1 rfl) ?_
              refine lv_iadd hx hb dX12_feed_83 ?_
              refine lv_topi (fun y_17 ey_17 => ?_)
              rw [Int32.zero_add] at ey_17
              replace ey_17 := ey_17.symm
              subst ey_17
              refine lv_iload hx hb dX12_feed_84 (lv_at hl 0 rfl) ?_
              refine lv_bipush (v := 24) hx hb dX12_feed_86 (by decide) ?_
              refine lv_bipush (v := 8) hx hb dX12_feed_88 (by decide) ?_
              refine lv_iload hx hb dX12_feed_90 (lv_at hl 1 rfl) ?_
              refine lv_iconst (v := 3) hx hb dX12_feed_92 (by decide) ?_
              refine lv_iand hx hb dX12_feed_93 ?_
              refine lv_topi (fun y_18 ey_18 => ?_)
              refine lv_imul hx hb dX12_feed_94 ?_
              refine lv_topi (fun y_19 ey_19 => ?_)
              refine lv_isub hx hb dX12_feed_95 ?_
              refine lv_topi (fun y_20 ey_20 => ?_)
              refine lv_ishr hx hb dX12_feed_96 ?_
              refine lv_topi (fun y_21 ey_21 => ?_)
              refine lv_i2b hx hb dX12_feed_97 rfl ?_
              refine lv_topi (fun y_22 ey_22 => ?_)
              refine va_bast hx hb hK hP hD hS 1 1 rfl rfl (vp_in_nI (by omega) (by decide)) dX12_feed_98 (fun H locs hP hD hS => ?_)
              replace hP : va_P D classes [(a0, .inr (12, MF ad 0 v3 0 (-1) v6 v7 v8 v9 vN 0 v36 v37 v38 v39 v40 v41 0 0 0 0 0)), ((ad 0), .inl (cB, 1620, .inl (upd g_3 (Int32.toNatClampNeg (nI i18)) (vp_nar .byte y_22))))] H := hP
              replace hD : va_D A [(a0, .inr (12, MF ad 0 v3 0 (-1) v6 v7 v8 v9 vN 0 v36 v37 v38 v39 v40 v41 0 0 0 0 0)), ((ad 0), .inl (cB, 1620, .inl (upd g_3 (Int32.toNatClampNeg (nI i18)) (vp_nar .byte y_22))))] := hD
              generalize eg_23 : upd g_3 (Int32.toNatClampNeg (nI i18)) (vp_nar .byte y_22) = g_23 at hP hD
              clear eg_23
              refine lv_iinc (v := nI (i18 + 1)) (lv' := [(6, .int (nI (i18 + 1))), (7, .int x4), (0, .ref a0), (1, .int x1), (2, .int x2), (3, .int x3), (4, .int x4), (5, .int x5)]) hx hb dX12_feed_99 hl (k := 1) rfl (nI_1 i18) (by decide) rfl (fun ls hl => ?_)
              refine lv_goto (tgt := 18) hx hb dX12_feed_102 (by decide) ?_
              replace hl : lv_has ls 8 [(6, .int (nI (i18 + 1))), (0, .ref a0), (1, .int x1), (2, .int x2), (3, .int x3), (4, .int x4), (5, .int x5)] := lv_sub hl [0, 2, 3, 4, 5, 6, 7] rfl
              apply ih18 (i18 := (i18 + 1)) (H := H) (locs := locs) (ls := ls) (g_3 := (g_23)) <;> first | assumption | omega
          · refine lv_iload_n hx hb dX12_feed_53 rfl (lv_at hl 4 rfl) ?_
            refine lv_goto (tgt := 71) hx hb dX12_feed_54 (by decide) ?_
            refine lv_istore (lv' := [(7, .int x3), (6, .int (nI i18)), (0, .ref a0), (1, .int x1), (2, .int x2), (3, .int x3), (4, .int x4), (5, .int x5)]) hx hb dX12_feed_71 hl (by decide) rfl (fun ls hl => ?_)
            refine lv_aload_n hx hb dX12_feed_73 rfl (lv_at hl 2 rfl) ?_
            refine va_get (D := D) (ci := 12) (v := .ref (ad 0)) (C := RX12) (T := TX12) (N := 71) hx hb hts iw_X12_feed_X12 hown hK hP 0 rfl rfl 0 (by decide) (hts (.fieldLink RX12 7 "SoldHouseModel" "tape" "[B") (List.mem_of_getElem? (i := 2) rfl)) (fun _ h9 => h9) rfl dX12_feed_74 ?_
            refine lv_aload_n hx hb dX12_feed_77 rfl (lv_at hl 2 rfl) ?_
            refine va_get (D := D) (ci := 12) (v := .int 0) (C := RX12) (T := TX12) (N := 71) hx hb hts iw_X12_feed_X12 hown hK hP 0 rfl rfl 2 (by decide) (hts (.fieldLink RX12 277 "SoldHouseModel" "taped" "I") (List.mem_of_getElem? (i := 1) rfl)) (fun _ h9 => h9) rfl dX12_feed_78 ?_
            refine lv_iload hx hb dX12_feed_81 (lv_at hl 1 rfl) ?_
            refine lv_iadd hx hb dX12_feed_83 ?_
            refine lv_topi (fun y_24 ey_24 => ?_)
            rw [Int32.zero_add] at ey_24
            replace ey_24 := ey_24.symm
            subst ey_24
            refine lv_iload hx hb dX12_feed_84 (lv_at hl 0 rfl) ?_
            refine lv_bipush (v := 24) hx hb dX12_feed_86 (by decide) ?_
            refine lv_bipush (v := 8) hx hb dX12_feed_88 (by decide) ?_
            refine lv_iload hx hb dX12_feed_90 (lv_at hl 1 rfl) ?_
            refine lv_iconst (v := 3) hx hb dX12_feed_92 (by decide) ?_
            refine lv_iand hx hb dX12_feed_93 ?_
            refine lv_topi (fun y_25 ey_25 => ?_)
            refine lv_imul hx hb dX12_feed_94 ?_
            refine lv_topi (fun y_26 ey_26 => ?_)
            refine lv_isub hx hb dX12_feed_95 ?_
            refine lv_topi (fun y_27 ey_27 => ?_)
            refine lv_ishr hx hb dX12_feed_96 ?_
            refine lv_topi (fun y_28 ey_28 => ?_)
            refine lv_i2b hx hb dX12_feed_97 rfl ?_
            refine lv_topi (fun y_29 ey_29 => ?_)
            refine va_bast hx hb hK hP hD hS 1 1 rfl rfl (vp_in_nI (by omega) (by decide)) dX12_feed_98 (fun H locs hP hD hS => ?_)
            replace hP : va_P D classes [(a0, .inr (12, MF ad 0 v3 0 (-1) v6 v7 v8 v9 vN 0 v36 v37 v38 v39 v40 v41 0 0 0 0 0)), ((ad 0), .inl (cB, 1620, .inl (upd g_3 (Int32.toNatClampNeg (nI i18)) (vp_nar .byte y_29))))] H := hP
            replace hD : va_D A [(a0, .inr (12, MF ad 0 v3 0 (-1) v6 v7 v8 v9 vN 0 v36 v37 v38 v39 v40 v41 0 0 0 0 0)), ((ad 0), .inl (cB, 1620, .inl (upd g_3 (Int32.toNatClampNeg (nI i18)) (vp_nar .byte y_29))))] := hD
            generalize eg_30 : upd g_3 (Int32.toNatClampNeg (nI i18)) (vp_nar .byte y_29) = g_30 at hP hD
            clear eg_30
            refine lv_iinc (v := nI (i18 + 1)) (lv' := [(6, .int (nI (i18 + 1))), (7, .int x3), (0, .ref a0), (1, .int x1), (2, .int x2), (3, .int x3), (4, .int x4), (5, .int x5)]) hx hb dX12_feed_99 hl (k := 1) rfl (nI_1 i18) (by decide) rfl (fun ls hl => ?_)
            refine lv_goto (tgt := 18) hx hb dX12_feed_102 (by decide) ?_
            replace hl : lv_has ls 8 [(6, .int (nI (i18 + 1))), (0, .ref a0), (1, .int x1), (2, .int x2), (3, .int x3), (4, .int x4), (5, .int x5)] := lv_sub hl [0, 2, 3, 4, 5, 6, 7] rfl
            apply ih18 (i18 := (i18 + 1)) (H := H) (locs := locs) (ls := ls) (g_3 := (g_30)) <;> first | assumption | omega
        · refine lv_iload_n hx hb dX12_feed_42 rfl (lv_at hl 3 rfl) ?_
          refine lv_goto (tgt := 71) hx hb dX12_feed_43 (by decide) ?_
          refine lv_istore (lv' := [(7, .int x2), (6, .int (nI i18)), (0, .ref a0), (1, .int x1), (2, .int x2), (3, .int x3), (4, .int x4), (5, .int x5)]) hx hb dX12_feed_71 hl (by decide) rfl (fun ls hl => ?_)
          refine lv_aload_n hx hb dX12_feed_73 rfl (lv_at hl 2 rfl) ?_
          refine va_get (D := D) (ci := 12) (v := .ref (ad 0)) (C := RX12) (T := TX12) (N := 71) hx hb hts iw_X12_feed_X12 hown hK hP 0 rfl rfl 0 (by decide) (hts (.fieldLink RX12 7 "SoldHouseModel" "tape" "[B") (List.mem_of_getElem? (i := 2) rfl)) (fun _ h9 => h9) rfl dX12_feed_74 ?_
          refine lv_aload_n hx hb dX12_feed_77 rfl (lv_at hl 2 rfl) ?_
          refine va_get (D := D) (ci := 12) (v := .int 0) (C := RX12) (T := TX12) (N := 71) hx hb hts iw_X12_feed_X12 hown hK hP 0 rfl rfl 2 (by decide) (hts (.fieldLink RX12 277 "SoldHouseModel" "taped" "I") (List.mem_of_getElem? (i := 1) rfl)) (fun _ h9 => h9) rfl dX12_feed_78 ?_
          refine lv_iload hx hb dX12_feed_81 (lv_at hl 1 rfl) ?_
          refine lv_iadd hx hb dX12_feed_83 ?_
          refine lv_topi (fun y_31 ey_31 => ?_)
          rw [Int32.zero_add] at ey_31
          replace ey_31 := ey_31.symm
          subst ey_31
          refine lv_iload hx hb dX12_feed_84 (lv_at hl 0 rfl) ?_
          refine lv_bipush (v := 24) hx hb dX12_feed_86 (by decide) ?_
          refine lv_bipush (v := 8) hx hb dX12_feed_88 (by decide) ?_
          refine lv_iload hx hb dX12_feed_90 (lv_at hl 1 rfl) ?_
          refine lv_iconst (v := 3) hx hb dX12_feed_92 (by decide) ?_
          refine lv_iand hx hb dX12_feed_93 ?_
          refine lv_topi (fun y_32 ey_32 => ?_)
          refine lv_imul hx hb dX12_feed_94 ?_
          refine lv_topi (fun y_33 ey_33 => ?_)
          refine lv_isub hx hb dX12_feed_95 ?_
          refine lv_topi (fun y_34 ey_34 => ?_)
          refine lv_ishr hx hb dX12_feed_96 ?_
          refine lv_topi (fun y_35 ey_35 => ?_)
          refine lv_i2b hx hb dX12_feed_97 rfl ?_
          refine lv_topi (fun y_36 ey_36 => ?_)
          refine va_bast hx hb hK hP hD hS 1 1 rfl rfl (vp_in_nI (by omega) (by decide)) dX12_feed_98 (fun H locs hP hD hS => ?_)
          replace hP : va_P D classes [(a0, .inr (12, MF ad 0 v3 0 (-1) v6 v7 v8 v9 vN 0 v36 v37 v38 v39 v40 v41 0 0 0 0 0)), ((ad 0), .inl (cB, 1620, .inl (upd g_3 (Int32.toNatClampNeg (nI i18)) (vp_nar .byte y_36))))] H := hP
          replace hD : va_D A [(a0, .inr (12, MF ad 0 v3 0 (-1) v6 v7 v8 v9 vN 0 v36 v37 v38 v39 v40 v41 0 0 0 0 0)), ((ad 0), .inl (cB, 1620, .inl (upd g_3 (Int32.toNatClampNeg (nI i18)) (vp_nar .byte y_36))))] := hD
          generalize eg_37 : upd g_3 (Int32.toNatClampNeg (nI i18)) (vp_nar .byte y_36) = g_37 at hP hD
          clear eg_37
          refine lv_iinc (v := nI (i18 + 1)) (lv' := [(6, .int (nI (i18 + 1))), (7, .int x2), (0, .ref a0), (1, .int x1), (2, .int x2), (3, .int x3), (4, .int x4), (5, .int x5)]) hx hb dX12_feed_99 hl (k := 1) rfl (nI_1 i18) (by decide) rfl (fun ls hl => ?_)
          refine lv_goto (tgt := 18) hx hb dX12_feed_102 (by decide) ?_
          replace hl : lv_has ls 8 [(6, .int (nI (i18 + 1))), (0, .ref a0), (1, .int x1), (2, .int x2), (3, .int x3), (4, .int x4), (5, .int x5)] := lv_sub hl [0, 2, 3, 4, 5, 6, 7] rfl
          apply ih18 (i18 := (i18 + 1)) (H := H) (locs := locs) (ls := ls) (g_3 := (g_37)) <;> first | assumption | omega
      · refine lv_iload_n hx hb dX12_feed_31 rfl (lv_at hl 2 rfl) ?_
        refine lv_goto (tgt := 71) hx hb dX12_feed_32 (by decide) ?_
        refine lv_istore (lv' := [(7, .int x1), (6, .int (nI i18)), (0, .ref a0), (1, .int x1), (2, .int x2), (3, .int x3), (4, .int x4), (5, .int x5)]) hx hb dX12_feed_71 hl (by decide) rfl (fun ls hl => ?_)
        refine lv_aload_n hx hb dX12_feed_73 rfl (lv_at hl 2 rfl) ?_
        refine va_get (D := D) (ci := 12) (v := .ref (ad 0)) (C := RX12) (T := TX12) (N := 71) hx hb hts iw_X12_feed_X12 hown hK hP 0 rfl rfl 0 (by decide) (hts (.fieldLink RX12 7 "SoldHouseModel" "tape" "[B") (List.mem_of_getElem? (i := 2) rfl)) (fun _ h9 => h9) rfl dX12_feed_74 ?_
        refine lv_aload_n hx hb dX12_feed_77 rfl (lv_at hl 2 rfl) ?_
        refine va_get (D := D) (ci := 12) (v := .int 0) (C := RX12) (T := TX12) (N := 71) hx hb hts iw_X12_feed_X12 hown hK hP 0 rfl rfl 2 (by decide) (hts (.fieldLink RX12 277 "SoldHouseModel" "taped" "I") (List.mem_of_getElem? (i := 1) rfl)) (fun _ h9 => h9) rfl dX12_feed_78 ?_
        refine lv_iload hx hb dX12_feed_81 (lv_at hl 1 rfl) ?_
        refine lv_iadd hx hb dX12_feed_83 ?_
        refine lv_topi (fun y_38 ey_38 => ?_)
        rw [Int32.zero_add] at ey_38
        replace ey_38 := ey_38.symm
        subst ey_38
        refine lv_iload hx hb dX12_feed_84 (lv_at hl 0 rfl) ?_
        refine lv_bipush (v := 24) hx hb dX12_feed_86 (by decide) ?_
        refine lv_bipush (v := 8) hx hb dX12_feed_88 (by decide) ?_
        refine lv_iload hx hb dX12_feed_90 (lv_at hl 1 rfl) ?_
        refine lv_iconst (v := 3) hx hb dX12_feed_92 (by decide) ?_
        refine lv_iand hx hb dX12_feed_93 ?_
        refine lv_topi (fun y_39 ey_39 => ?_)
        refine lv_imul hx hb dX12_feed_94 ?_
        refine lv_topi (fun y_40 ey_40 => ?_)
        refine lv_isub hx hb dX12_feed_95 ?_
        refine lv_topi (fun y_41 ey_41 => ?_)
        refine lv_ishr hx hb dX12_feed_96 ?_
        refine lv_topi (fun y_42 ey_42 => ?_)
        refine lv_i2b hx hb dX12_feed_97 rfl ?_
        refine lv_topi (fun y_43 ey_43 => ?_)
        refine va_bast hx hb hK hP hD hS 1 1 rfl rfl (vp_in_nI (by omega) (by decide)) dX12_feed_98 (fun H locs hP hD hS => ?_)
        replace hP : va_P D classes [(a0, .inr (12, MF ad 0 v3 0 (-1) v6 v7 v8 v9 vN 0 v36 v37 v38 v39 v40 v41 0 0 0 0 0)), ((ad 0), .inl (cB, 1620, .inl (upd g_3 (Int32.toNatClampNeg (nI i18)) (vp_nar .byte y_43))))] H := hP
        replace hD : va_D A [(a0, .inr (12, MF ad 0 v3 0 (-1) v6 v7 v8 v9 vN 0 v36 v37 v38 v39 v40 v41 0 0 0 0 0)), ((ad 0), .inl (cB, 1620, .inl (upd g_3 (Int32.toNatClampNeg (nI i18)) (vp_nar .byte y_43))))] := hD
        generalize eg_44 : upd g_3 (Int32.toNatClampNeg (nI i18)) (vp_nar .byte y_43) = g_44 at hP hD
        clear eg_44
        refine lv_iinc (v := nI (i18 + 1)) (lv' := [(6, .int (nI (i18 + 1))), (7, .int x1), (0, .ref a0), (1, .int x1), (2, .int x2), (3, .int x3), (4, .int x4), (5, .int x5)]) hx hb dX12_feed_99 hl (k := 1) rfl (nI_1 i18) (by decide) rfl (fun ls hl => ?_)
        refine lv_goto (tgt := 18) hx hb dX12_feed_102 (by decide) ?_
        replace hl : lv_has ls 8 [(6, .int (nI (i18 + 1))), (0, .ref a0), (1, .int x1), (2, .int x2), (3, .int x3), (4, .int x4), (5, .int x5)] := lv_sub hl [0, 2, 3, 4, 5, 6, 7] rfl
        apply ih18 (i18 := (i18 + 1)) (H := H) (locs := locs) (ls := ls) (g_3 := (g_44)) <;> first | assumption | omega
set_option maxHeartbeats 4000000 in
set_option maxRecDepth 100000 in
theorem m_end (l : Launch) (D : va_G) (cI : ClassId) (cB : ClassId) (cL : ClassId) (cZ : ClassId) (a0 : Nat) (ad : Nat → Nat) (v3 : Int32) (v6 : Int32) (v7 : Int32) (v8 : Int32) (v9 : Int32) (v36 : Int32) (v37 : Int32) (v38 : Int32) (v39 : Int32) (v40 : Int32) (v41 : Int32) (vN : Int64) (x : Int32) (sz : Nat) : Met l yX12_end wsX12_end ({ frames := 0, cells := 0, slots := 0, locals := 0 }) (xp D [(cI, .int), (cB, .byte), (cL, .long), (cZ, .boolean)] [(a0, .inr (12, MF ad 0 v3 0 (-1) v6 v7 v8 v9 vN 0 v36 v37 v38 v39 v40 v41 0 0 0 0 0))] sz [] [.ref a0, .int x]) (va_Qi (fun (r : Int32) (_ : Unit) => r = sp_nul x) (fun (_ : Unit) (_ : State) => True) (va_A [(a0, .inr (12, MF ad 0 v3 0 (-1) v6 v7 v8 v9 vN 0 v36 v37 v38 v39 v40 v41 0 0 0 0 0))] sz)) 0 0 (va_A [(a0, .inr (12, MF ad 0 v3 0 (-1) v6 v7 v8 v9 vN 0 v36 v37 v38 v39 v40 v41 0 0 0 0 0))] sz) := by
  refine Met.ofW (cc := cX12_end) (maxL := 2) (ret := (some .int)) (by decide) rfl ?_
  intro p e s m args below meth c s₁ B hml hv
  obtain ⟨rfl, hsz, hP, hK, hD0, hNw⟩ := hv
  have hx := B.exec
  have hb := B.bytes
  have hr := B.returns
  have hts := atoms_spec (ws := wsX12_end) B.pre
  have hown : s.vm.findClass RX12 = some m.cls := findClass_of_methodNamed B.named
  have hlocks := B.notSynchronized
  subst hsz
  have hD := hD0.self (sz := s.heap.size)
  clear hD0
  generalize hAe : va_A [(a0, .inr (12, MF ad 0 v3 0 (-1) v6 v7 v8 v9 vN 0 v36 v37 v38 v39 v40 v41 0 0 0 0 0))] s.heap.size = A at hD ⊢
  have hA : ∀ q : Nat, s.heap.size ≤ q → A q := fun q h => by rw [← hAe]; exact Or.inr h
  have hS : va_S A s.heap s.heap [] := va_S.rf
  clear hAe
  obtain ⟨H, hH⟩ : ∃ H : Heap, H = s.heap := ⟨_, rfl⟩
  obtain ⟨locs, hlocs⟩ : ∃ L : List Loc, L = [] := ⟨_, rfl⟩
  replace hP : va_P D classes [(a0, .inr (12, MF ad 0 v3 0 (-1) v6 v7 v8 v9 vN 0 v36 v37 v38 v39 v40 v41 0 0 0 0 0))] H := by rw [hH]; exact hP
  replace hS : va_S A s.heap H locs := by rw [hH, hlocs]; exact hS
  rw [← hH, ← hlocs]
  clear hlocs hH
  have hl := lv_entry ([.ref a0, .int x]) (n := 2) (Nat.le_of_ble_eq_true rfl)
  rw [lg_entry_eq]
  generalize (lg_sl ([.ref a0, .int x]) ++ List.replicate (2 - (lg_sl ([.ref a0, .int x])).length) Slot.unset).toArray = ls at hl ⊢
  replace hl : lv_has ls 2 [(0, .ref a0), (1, .int x)] := hl
  refine lv_iload_n hx hb dX12_end_0 rfl (lv_at hl 1 rfl) ?_
  refine lv_if_lt (tgt := 12) hx hb dX12_end_1 (by decide) (fun c_1 => ?_) (fun c_1 => ?_)
  · refine lv_iconst (v := (-1)) hx hb dX12_end_12 (by decide) ?_
    refine W.widen (k := 0) (n := 0) (Nat.le_of_ble_eq_true rfl) (Nat.le_of_ble_eq_true rfl) ?_
    exact W.iret (v := (-1)) hx hb hr (fun t ht hW => ⟨⟨(-1), (), rfl, (sp_nul_lt c_1).symm, trivial⟩, hS.F ht⟩) hS.2.2 dX12_end_13
  · refine lv_iload_n hx hb dX12_end_4 rfl (lv_at hl 1 rfl) ?_
    refine lv_aload_n hx hb dX12_end_5 rfl (lv_at hl 0 rfl) ?_
    refine va_get (D := D) (ci := 12) (v := .int 0) (C := RX12) (T := TX12) (N := 71) hx hb hts iw_X12_end_X12 hown hK hP 0 rfl rfl 2 (by decide) (hts (.fieldLink RX12 277 "SoldHouseModel" "taped" "I") (List.mem_of_getElem? (i := 1) rfl)) (fun _ h9 => h9) rfl dX12_end_6 ?_
    refine lv_icmp_le (tgt := 14) hx hb dX12_end_9 (by decide) (fun c_2 => ?_) (fun c_2 => ?_)
    · refine lv_aload_n hx hb dX12_end_14 rfl (lv_at hl 0 rfl) ?_
      refine lv_iload_n hx hb dX12_end_15 rfl (lv_at hl 1 rfl) ?_
      refine va_put (D := D) (ci := 12) (v := .int x) (ty := tyX12 2) (C := RX12) (T := TX12) (N := 71) hx hb hts iw_X12_end_X12 tyX12 tyX12_ok nmX12 hown hK hP hD hS 0 rfl rfl 2 (by decide) (hts (.fieldLink RX12 277 "SoldHouseModel" "taped" "I") (List.mem_of_getElem? (i := 1) rfl)) (fun _ h9 => h9) rfl (by decide +kernel) rfl rfl (Nat.le_of_ble_eq_true rfl) dX12_end_16 (fun H locs hP hD hS => ?_)
      replace hP : va_P D classes [(a0, .inr (12, MF ad x v3 0 (-1) v6 v7 v8 v9 vN 0 v36 v37 v38 v39 v40 v41 0 0 0 0 0))] H := hP
      replace hD : va_D A [(a0, .inr (12, MF ad x v3 0 (-1) v6 v7 v8 v9 vN 0 v36 v37 v38 v39 v40 v41 0 0 0 0 0))] := hD
      refine lv_iload_n hx hb dX12_end_19 rfl (lv_at hl 1 rfl) ?_
      refine W.widen (k := 0) (n := 0) (Nat.le_of_ble_eq_true rfl) (Nat.le_of_ble_eq_true rfl) ?_
      exact W.iret (v := x) hx hb hr (fun t ht hW => ⟨⟨x, (), rfl, (by rw [zz_pin c_1 (Int32.not_lt.mpr c_2)]; decide), trivial⟩, hS.F ht⟩) hS.2.2 dX12_end_20
    · refine lv_iconst (v := (-1)) hx hb dX12_end_12 (by decide) ?_
      refine W.widen (k := 0) (n := 0) (Nat.le_of_ble_eq_true rfl) (Nat.le_of_ble_eq_true rfl) ?_
      exact W.iret (v := (-1)) hx hb hr (fun t ht hW => ⟨⟨(-1), (), rfl, (sp_nul_gt (Int32.not_le.mp c_2)).symm, trivial⟩, hS.F ht⟩) hS.2.2 dX12_end_13
set_option maxHeartbeats 4000000 in
set_option maxRecDepth 100000 in
theorem m_way (l : Launch) (D : va_G) (cI : ClassId) (cB : ClassId) (cL : ClassId) (cZ : ClassId) (a0 : Nat) (ad : Nat → Nat) (v3 : Int32) (v6 : Int32) (v7 : Int32) (v8 : Int32) (v9 : Int32) (v36 : Int32) (v37 : Int32) (v38 : Int32) (v39 : Int32) (v40 : Int32) (v41 : Int32) (vN : Int64) (fR : Nat → Int32) (x : Int32) (y : Int32) (sz : Nat) (hf_fR_0 : fR 0 = 0) : Met l yX12_way wsX12_way ({ frames := 3, cells := 0, slots := 0, locals := 65 }) (xp D [(cI, .int), (cB, .byte), (cL, .long), (cZ, .boolean)] [(a0, .inr (12, MF ad 0 v3 0 (-1) v6 v7 v8 v9 vN 0 v36 v37 v38 v39 v40 v41 0 0 0 0 0)), ((ad 11), .inl (cI, 2, .inl fR))] sz [] [.ref a0, .int x, .int y]) (va_Qi (fun (r : Int32) (_ : Unit) => r = (-1)) (fun (_ : Unit) (_ : State) => True) (va_A [(a0, .inr (12, MF ad 0 v3 0 (-1) v6 v7 v8 v9 vN 0 v36 v37 v38 v39 v40 v41 0 0 0 0 0)), ((ad 11), .inl (cI, 2, .inl fR))] sz)) 0 0 (va_A [(a0, .inr (12, MF ad 0 v3 0 (-1) v6 v7 v8 v9 vN 0 v36 v37 v38 v39 v40 v41 0 0 0 0 0)), ((ad 11), .inl (cI, 2, .inl fR))] sz) := by
  refine Met.ofW (cc := cX12_way) (maxL := 3) (ret := (some .int)) (by decide) rfl ?_
  intro p e s m args below meth c s₁ B hml hv
  obtain ⟨rfl, hsz, hP, hK, hD0, hNw⟩ := hv
  have hx := B.exec
  have hb := B.bytes
  have hr := B.returns
  have hts := atoms_spec (ws := wsX12_way) B.pre
  have hown : s.vm.findClass RX12 = some m.cls := findClass_of_methodNamed B.named
  have hlocks := B.notSynchronized
  subst hsz
  have hD := hD0.self (sz := s.heap.size)
  clear hD0
  generalize hAe : va_A [(a0, .inr (12, MF ad 0 v3 0 (-1) v6 v7 v8 v9 vN 0 v36 v37 v38 v39 v40 v41 0 0 0 0 0)), ((ad 11), .inl (cI, 2, .inl fR))] s.heap.size = A at hD ⊢
  have hA : ∀ q : Nat, s.heap.size ≤ q → A q := fun q h => by rw [← hAe]; exact Or.inr h
  have hS : va_S A s.heap s.heap [] := va_S.rf
  clear hAe
  obtain ⟨H, hH⟩ : ∃ H : Heap, H = s.heap := ⟨_, rfl⟩
  obtain ⟨locs, hlocs⟩ : ∃ L : List Loc, L = [] := ⟨_, rfl⟩
  replace hP : va_P D classes [(a0, .inr (12, MF ad 0 v3 0 (-1) v6 v7 v8 v9 vN 0 v36 v37 v38 v39 v40 v41 0 0 0 0 0)), ((ad 11), .inl (cI, 2, .inl fR))] H := by rw [hH]; exact hP
  replace hS : va_S A s.heap H locs := by rw [hH, hlocs]; exact hS
  rw [← hH, ← hlocs]
  clear hlocs hH
  have hl := lv_entry ([.ref a0, .int x, .int y]) (n := 3) (Nat.le_of_ble_eq_true rfl)
  rw [lg_entry_eq]
  generalize (lg_sl ([.ref a0, .int x, .int y]) ++ List.replicate (3 - (lg_sl ([.ref a0, .int x, .int y])).length) Slot.unset).toArray = ls at hl ⊢
  replace hl : lv_has ls 3 [(0, .ref a0), (1, .int x), (2, .int y)] := hl
  refine lv_aload_n hx hb dX12_way_0 rfl (lv_at hl 0 rfl) ?_
  refine lv_iconst (v := 0) hx hb dX12_way_1 (by decide) ?_
  refine va_put (D := D) (ci := 12) (v := .int 0) (ty := tyX12 51) (C := RX12) (T := TX12) (N := 71) hx hb hts iw_X12_way_X12 tyX12 tyX12_ok nmX12 hown hK hP hD hS 0 rfl rfl 51 (by decide) (hts (.fieldLink RX12 418 "SoldHouseModel" "laid" "I") (List.mem_of_getElem? (i := 1) rfl)) (fun _ h9 => h9) rfl (by decide +kernel) rfl rfl (Nat.le_of_ble_eq_true rfl) dX12_way_2 (fun H locs hP hD hS => ?_)
  replace hP : va_P D classes [(a0, .inr (12, MF ad 0 v3 0 (-1) v6 v7 v8 v9 vN 0 v36 v37 v38 v39 v40 v41 0 0 0 0 0)), ((ad 11), .inl (cI, 2, .inl fR))] H := hP
  replace hD : va_D A [(a0, .inr (12, MF ad 0 v3 0 (-1) v6 v7 v8 v9 vN 0 v36 v37 v38 v39 v40 v41 0 0 0 0 0)), ((ad 11), .inl (cI, 2, .inl fR))] := hD
  refine lv_aload_n hx hb dX12_way_5 rfl (lv_at hl 0 rfl) ?_
  refine lv_iload_n hx hb dX12_way_6 rfl (lv_at hl 1 rfl) ?_
  refine lv_iload_n hx hb dX12_way_7 rfl (lv_at hl 2 rfl) ?_
  have hPc := hP.sub (ws' := [(a0, .inr (12, MF ad 0 v3 0 (-1) v6 v7 v8 v9 vN 0 v36 v37 v38 v39 v40 v41 0 0 0 0 0)), ((ad 11), .inl (cI, 2, .inl fR))]) [0, 1] rfl
  refine vp_callSi (va_runV (As := [.int x, .int y]) (rest := []) ⟨hx, hb, hml, hown, hts⟩ (m_areRooms l D cI cB cL cZ a0 ad v3 v6 v7 v8 v9 v36 v37 v38 v39 v40 v41 vN fR x y hf_fR_0) (cwV 2 hts gX12_way_X12_areRooms rfl rfl rfl (by decide +kernel) ⟨Nat.le_of_ble_eq_true rfl, Nat.le_of_ble_eq_true rfl⟩) ⟨xr_blind, va_recv hK hPc (ci := 12) (q0 := 0) rfl rfl, fun U hU hW => xr_mk hU hW hPc hK⟩ rfl rfl hl.1 rfl (lv_room (Nat.le_of_ble_eq_true rfl)) dX12_way_8 ⟨Nat.le_of_ble_eq_true rfl, Nat.le_of_ble_eq_true rfl⟩).run (fun r_1 hr_1 => ?_)
  clear hPc
  subst hr_1
  refine lv_if_ne (tgt := 16) hx hb dX12_way_11 (by decide) (fun c_2 => absurd (by decide) c_2) (fun _ => ?_)
  refine lv_iconst (v := (-1)) hx hb dX12_way_14 (by decide) ?_
  refine W.widen (k := 0) (n := 0) (Nat.le_of_ble_eq_true rfl) (Nat.le_of_ble_eq_true rfl) ?_
  exact W.iret (v := (-1)) hx hb hr (fun t ht hW => ⟨⟨(-1), (), rfl, rfl, trivial⟩, hS.F ht⟩) hS.2.2 dX12_way_15
set_option maxHeartbeats 4000000 in
set_option maxRecDepth 100000 in
theorem m_quiet (l : Launch) (D : va_G) (cI : ClassId) (cB : ClassId) (cL : ClassId) (cZ : ClassId) (a0 : Nat) (ad : Nat → Nat) (v3 : Int32) (v6 : Int32) (v7 : Int32) (v8 : Int32) (v9 : Int32) (v36 : Int32) (v37 : Int32) (v38 : Int32) (v39 : Int32) (v40 : Int32) (v41 : Int32) (vN : Int64) (fR : Nat → Int32) (x : Int32) (y : Int32) (sz : Nat) (hf_fR_0 : fR 0 = 0) : Met l yX12_quiet wsX12_quiet ({ frames := 3, cells := 0, slots := 0, locals := 65 }) (xp D [(cI, .int), (cB, .byte), (cL, .long), (cZ, .boolean)] [(a0, .inr (12, MF ad 0 v3 0 (-1) v6 v7 v8 v9 vN 0 v36 v37 v38 v39 v40 v41 0 0 0 0 0)), ((ad 11), .inl (cI, 2, .inl fR))] sz [] [.ref a0, .int x, .int y]) (va_Qi (fun (r : Int32) (_ : Unit) => r = (-1)) (fun (_ : Unit) (_ : State) => True) (va_A [(a0, .inr (12, MF ad 0 v3 0 (-1) v6 v7 v8 v9 vN 0 v36 v37 v38 v39 v40 v41 0 0 0 0 0)), ((ad 11), .inl (cI, 2, .inl fR))] sz)) 0 0 (va_A [(a0, .inr (12, MF ad 0 v3 0 (-1) v6 v7 v8 v9 vN 0 v36 v37 v38 v39 v40 v41 0 0 0 0 0)), ((ad 11), .inl (cI, 2, .inl fR))] sz) := by
  refine Met.ofW (cc := cX12_quiet) (maxL := 4) (ret := (some .int)) (by decide) rfl ?_
  intro p e s m args below meth c s₁ B hml hv
  obtain ⟨rfl, hsz, hP, hK, hD0, hNw⟩ := hv
  have hx := B.exec
  have hb := B.bytes
  have hr := B.returns
  have hts := atoms_spec (ws := wsX12_quiet) B.pre
  have hown : s.vm.findClass RX12 = some m.cls := findClass_of_methodNamed B.named
  have hlocks := B.notSynchronized
  subst hsz
  have hD := hD0.self (sz := s.heap.size)
  clear hD0
  generalize hAe : va_A [(a0, .inr (12, MF ad 0 v3 0 (-1) v6 v7 v8 v9 vN 0 v36 v37 v38 v39 v40 v41 0 0 0 0 0)), ((ad 11), .inl (cI, 2, .inl fR))] s.heap.size = A at hD ⊢
  have hA : ∀ q : Nat, s.heap.size ≤ q → A q := fun q h => by rw [← hAe]; exact Or.inr h
  have hS : va_S A s.heap s.heap [] := va_S.rf
  clear hAe
  obtain ⟨H, hH⟩ : ∃ H : Heap, H = s.heap := ⟨_, rfl⟩
  obtain ⟨locs, hlocs⟩ : ∃ L : List Loc, L = [] := ⟨_, rfl⟩
  replace hP : va_P D classes [(a0, .inr (12, MF ad 0 v3 0 (-1) v6 v7 v8 v9 vN 0 v36 v37 v38 v39 v40 v41 0 0 0 0 0)), ((ad 11), .inl (cI, 2, .inl fR))] H := by rw [hH]; exact hP
  replace hS : va_S A s.heap H locs := by rw [hH, hlocs]; exact hS
  rw [← hH, ← hlocs]
  clear hlocs hH
  have hl := lv_entry ([.ref a0, .int x, .int y]) (n := 4) (Nat.le_of_ble_eq_true rfl)
  rw [lg_entry_eq]
  generalize (lg_sl ([.ref a0, .int x, .int y]) ++ List.replicate (4 - (lg_sl ([.ref a0, .int x, .int y])).length) Slot.unset).toArray = ls at hl ⊢
  replace hl : lv_has ls 4 [(0, .ref a0), (1, .int x), (2, .int y)] := hl
  refine lv_aload_n hx hb dX12_quiet_0 rfl (lv_at hl 0 rfl) ?_
  refine lv_iconst (v := 0) hx hb dX12_quiet_1 (by decide) ?_
  refine va_put (D := D) (ci := 12) (v := .int 0) (ty := tyX12 51) (C := RX12) (T := TX12) (N := 71) hx hb hts iw_X12_quiet_X12 tyX12 tyX12_ok nmX12 hown hK hP hD hS 0 rfl rfl 51 (by decide) (hts (.fieldLink RX12 418 "SoldHouseModel" "laid" "I") (List.mem_of_getElem? (i := 1) rfl)) (fun _ h9 => h9) rfl (by decide +kernel) rfl rfl (Nat.le_of_ble_eq_true rfl) dX12_quiet_2 (fun H locs hP hD hS => ?_)
  replace hP : va_P D classes [(a0, .inr (12, MF ad 0 v3 0 (-1) v6 v7 v8 v9 vN 0 v36 v37 v38 v39 v40 v41 0 0 0 0 0)), ((ad 11), .inl (cI, 2, .inl fR))] H := hP
  replace hD : va_D A [(a0, .inr (12, MF ad 0 v3 0 (-1) v6 v7 v8 v9 vN 0 v36 v37 v38 v39 v40 v41 0 0 0 0 0)), ((ad 11), .inl (cI, 2, .inl fR))] := hD
  refine lv_aload_n hx hb dX12_quiet_5 rfl (lv_at hl 0 rfl) ?_
  refine lv_iload_n hx hb dX12_quiet_6 rfl (lv_at hl 1 rfl) ?_
  refine lv_iload_n hx hb dX12_quiet_7 rfl (lv_at hl 2 rfl) ?_
  have hPc := hP.sub (ws' := [(a0, .inr (12, MF ad 0 v3 0 (-1) v6 v7 v8 v9 vN 0 v36 v37 v38 v39 v40 v41 0 0 0 0 0)), ((ad 11), .inl (cI, 2, .inl fR))]) [0, 1] rfl
  refine vp_callSi (va_runV (As := [.int x, .int y]) (rest := []) ⟨hx, hb, hml, hown, hts⟩ (m_areRooms l D cI cB cL cZ a0 ad v3 v6 v7 v8 v9 v36 v37 v38 v39 v40 v41 vN fR x y hf_fR_0) (cwV 2 hts gX12_quiet_X12_areRooms rfl rfl rfl (by decide +kernel) ⟨Nat.le_of_ble_eq_true rfl, Nat.le_of_ble_eq_true rfl⟩) ⟨xr_blind, va_recv hK hPc (ci := 12) (q0 := 0) rfl rfl, fun U hU hW => xr_mk hU hW hPc hK⟩ rfl rfl hl.1 rfl (lv_room (Nat.le_of_ble_eq_true rfl)) dX12_quiet_8 ⟨Nat.le_of_ble_eq_true rfl, Nat.le_of_ble_eq_true rfl⟩).run (fun r_1 hr_1 => ?_)
  clear hPc
  subst hr_1
  refine lv_if_ne (tgt := 16) hx hb dX12_quiet_11 (by decide) (fun c_2 => absurd (by decide) c_2) (fun _ => ?_)
  refine lv_iconst (v := (-1)) hx hb dX12_quiet_14 (by decide) ?_
  refine W.widen (k := 0) (n := 0) (Nat.le_of_ble_eq_true rfl) (Nat.le_of_ble_eq_true rfl) ?_
  exact W.iret (v := (-1)) hx hb hr (fun t ht hW => ⟨⟨(-1), (), rfl, rfl, trivial⟩, hS.F ht⟩) hS.2.2 dX12_quiet_15
set_option maxHeartbeats 4000000 in
set_option maxRecDepth 100000 in
theorem m_tour (l : Launch) (D : va_G) (cI : ClassId) (cB : ClassId) (cL : ClassId) (cZ : ClassId) (a0 : Nat) (ad : Nat → Nat) (v3 : Int32) (v6 : Int32) (v7 : Int32) (v8 : Int32) (v9 : Int32) (v36 : Int32) (v37 : Int32) (v38 : Int32) (v39 : Int32) (v40 : Int32) (v41 : Int32) (vN : Int64) (fR : Nat → Int32) (x : Int32) (y : Int32) (sz : Nat) (hf_fR_0 : fR 0 = 0) : Met l yX12_tour wsX12_tour ({ frames := 2, cells := 0, slots := 0, locals := 43 }) (xp D [(cI, .int), (cB, .byte), (cL, .long), (cZ, .boolean)] [(a0, .inr (12, MF ad 0 v3 0 (-1) v6 v7 v8 v9 vN 0 v36 v37 v38 v39 v40 v41 0 0 0 0 0)), ((ad 11), .inl (cI, 2, .inl fR))] sz [] [.ref a0, .int x, .int y]) (va_Qi (fun (r : Int32) (_ : Unit) => r = (-1)) (fun (_ : Unit) (_ : State) => True) (va_A [(a0, .inr (12, MF ad 0 v3 0 (-1) v6 v7 v8 v9 vN 0 v36 v37 v38 v39 v40 v41 0 0 0 0 0)), ((ad 11), .inl (cI, 2, .inl fR))] sz)) 0 0 (va_A [(a0, .inr (12, MF ad 0 v3 0 (-1) v6 v7 v8 v9 vN 0 v36 v37 v38 v39 v40 v41 0 0 0 0 0)), ((ad 11), .inl (cI, 2, .inl fR))] sz) := by
  refine Met.ofW (cc := cX12_tour) (maxL := 7) (ret := (some .int)) (by decide) rfl ?_
  intro p e s m args below meth c s₁ B hml hv
  obtain ⟨rfl, hsz, hP, hK, hD0, hNw⟩ := hv
  have hx := B.exec
  have hb := B.bytes
  have hr := B.returns
  have hts := atoms_spec (ws := wsX12_tour) B.pre
  have hown : s.vm.findClass RX12 = some m.cls := findClass_of_methodNamed B.named
  have hlocks := B.notSynchronized
  subst hsz
  have hD := hD0.self (sz := s.heap.size)
  clear hD0
  generalize hAe : va_A [(a0, .inr (12, MF ad 0 v3 0 (-1) v6 v7 v8 v9 vN 0 v36 v37 v38 v39 v40 v41 0 0 0 0 0)), ((ad 11), .inl (cI, 2, .inl fR))] s.heap.size = A at hD ⊢
  have hA : ∀ q : Nat, s.heap.size ≤ q → A q := fun q h => by rw [← hAe]; exact Or.inr h
  have hS : va_S A s.heap s.heap [] := va_S.rf
  clear hAe
  obtain ⟨H, hH⟩ : ∃ H : Heap, H = s.heap := ⟨_, rfl⟩
  obtain ⟨locs, hlocs⟩ : ∃ L : List Loc, L = [] := ⟨_, rfl⟩
  replace hP : va_P D classes [(a0, .inr (12, MF ad 0 v3 0 (-1) v6 v7 v8 v9 vN 0 v36 v37 v38 v39 v40 v41 0 0 0 0 0)), ((ad 11), .inl (cI, 2, .inl fR))] H := by rw [hH]; exact hP
  replace hS : va_S A s.heap H locs := by rw [hH, hlocs]; exact hS
  rw [← hH, ← hlocs]
  clear hlocs hH
  have hl := lv_entry ([.ref a0, .int x, .int y]) (n := 7) (Nat.le_of_ble_eq_true rfl)
  rw [lg_entry_eq]
  generalize (lg_sl ([.ref a0, .int x, .int y]) ++ List.replicate (7 - (lg_sl ([.ref a0, .int x, .int y])).length) Slot.unset).toArray = ls at hl ⊢
  replace hl : lv_has ls 7 [(0, .ref a0), (1, .int x), (2, .int y)] := hl
  refine lv_aload_n hx hb dX12_tour_0 rfl (lv_at hl 0 rfl) ?_
  refine lv_iconst (v := 0) hx hb dX12_tour_1 (by decide) ?_
  refine va_put (D := D) (ci := 12) (v := .int 0) (ty := tyX12 51) (C := RX12) (T := TX12) (N := 71) hx hb hts iw_X12_tour_X12 tyX12 tyX12_ok nmX12 hown hK hP hD hS 0 rfl rfl 51 (by decide) (hts (.fieldLink RX12 418 "SoldHouseModel" "laid" "I") (List.mem_of_getElem? (i := 1) rfl)) (fun _ h9 => h9) rfl (by decide +kernel) rfl rfl (Nat.le_of_ble_eq_true rfl) dX12_tour_2 (fun H locs hP hD hS => ?_)
  replace hP : va_P D classes [(a0, .inr (12, MF ad 0 v3 0 (-1) v6 v7 v8 v9 vN 0 v36 v37 v38 v39 v40 v41 0 0 0 0 0)), ((ad 11), .inl (cI, 2, .inl fR))] H := hP
  replace hD : va_D A [(a0, .inr (12, MF ad 0 v3 0 (-1) v6 v7 v8 v9 vN 0 v36 v37 v38 v39 v40 v41 0 0 0 0 0)), ((ad 11), .inl (cI, 2, .inl fR))] := hD
  refine lv_aload_n hx hb dX12_tour_5 rfl (lv_at hl 0 rfl) ?_
  refine lv_iload_n hx hb dX12_tour_6 rfl (lv_at hl 1 rfl) ?_
  have hPc := hP.sub (ws' := [(a0, .inr (12, MF ad 0 v3 0 (-1) v6 v7 v8 v9 vN 0 v36 v37 v38 v39 v40 v41 0 0 0 0 0)), ((ad 11), .inl (cI, 2, .inl fR))]) [0, 1] rfl
  refine vp_callSi (va_runV (As := [.int x]) (rest := []) ⟨hx, hb, hml, hown, hts⟩ (m_isRoom l D cI cB cL cZ a0 ad v3 v6 v7 v8 v9 v36 v37 v38 v39 v40 v41 vN fR x hf_fR_0) (cwV 1 hts gX12_tour_X12_isRoom rfl rfl rfl (by decide +kernel) ⟨Nat.le_of_ble_eq_true rfl, Nat.le_of_ble_eq_true rfl⟩) ⟨xr_blind, va_recv hK hPc (ci := 12) (q0 := 0) rfl rfl, fun U hU hW => xr_mk hU hW hPc hK⟩ rfl rfl hl.1 rfl (lv_room (Nat.le_of_ble_eq_true rfl)) dX12_tour_7 ⟨Nat.le_of_ble_eq_true rfl, Nat.le_of_ble_eq_true rfl⟩).run (fun r_1 hr_1 => ?_)
  clear hPc
  subst hr_1
  refine lv_if_eq (tgt := 21) hx hb dX12_tour_10 (by decide) (fun _ => ?_) (fun c_2 => absurd (by decide) c_2)
  refine lv_iconst (v := (-1)) hx hb dX12_tour_21 (by decide) ?_
  refine W.widen (k := 0) (n := 0) (Nat.le_of_ble_eq_true rfl) (Nat.le_of_ble_eq_true rfl) ?_
  exact W.iret (v := (-1)) hx hb hr (fun t ht hW => ⟨⟨(-1), (), rfl, rfl, trivial⟩, hS.F ht⟩) hS.2.2 dX12_tour_22
set_option maxHeartbeats 4000000 in
set_option maxRecDepth 100000 in
theorem m_later (l : Launch) (D : va_G) (cI : ClassId) (cB : ClassId) (cL : ClassId) (cZ : ClassId) (a0 : Nat) (ad : Nat → Nat) (v3 : Int32) (v6 : Int32) (v7 : Int32) (v8 : Int32) (v9 : Int32) (v36 : Int32) (v37 : Int32) (v38 : Int32) (v39 : Int32) (v40 : Int32) (v41 : Int32) (vN : Int64) (x : Int32) (sz : Nat) : Met l yX12_later wsX12_later ({ frames := 1, cells := 0, slots := 0, locals := 22 }) (xp D [(cI, .int), (cB, .byte), (cL, .long), (cZ, .boolean)] [(a0, .inr (12, MF ad 0 v3 0 (-1) v6 v7 v8 v9 vN 0 v36 v37 v38 v39 v40 v41 0 0 0 0 0))] sz [] [.ref a0, .int x]) (va_Qi (fun (r : Int32) (_ : Unit) => r = sp_later x) (fun (_ : Unit) (_ : State) => True) (va_A [(a0, .inr (12, MF ad 0 v3 0 (-1) v6 v7 v8 v9 vN 0 v36 v37 v38 v39 v40 v41 0 0 0 0 0))] sz)) 0 0 (va_A [(a0, .inr (12, MF ad 0 v3 0 (-1) v6 v7 v8 v9 vN 0 v36 v37 v38 v39 v40 v41 0 0 0 0 0))] sz) := by
  refine Met.ofW (cc := cX12_later) (maxL := 2) (ret := (some .int)) (by decide) rfl ?_
  intro p e s m args below meth c s₁ B hml hv
  obtain ⟨rfl, hsz, hP, hK, hD0, hNw⟩ := hv
  have hx := B.exec
  have hb := B.bytes
  have hr := B.returns
  have hts := atoms_spec (ws := wsX12_later) B.pre
  have hown : s.vm.findClass RX12 = some m.cls := findClass_of_methodNamed B.named
  have hlocks := B.notSynchronized
  subst hsz
  have hD := hD0.self (sz := s.heap.size)
  clear hD0
  generalize hAe : va_A [(a0, .inr (12, MF ad 0 v3 0 (-1) v6 v7 v8 v9 vN 0 v36 v37 v38 v39 v40 v41 0 0 0 0 0))] s.heap.size = A at hD ⊢
  have hA : ∀ q : Nat, s.heap.size ≤ q → A q := fun q h => by rw [← hAe]; exact Or.inr h
  have hS : va_S A s.heap s.heap [] := va_S.rf
  clear hAe
  obtain ⟨H, hH⟩ : ∃ H : Heap, H = s.heap := ⟨_, rfl⟩
  obtain ⟨locs, hlocs⟩ : ∃ L : List Loc, L = [] := ⟨_, rfl⟩
  replace hP : va_P D classes [(a0, .inr (12, MF ad 0 v3 0 (-1) v6 v7 v8 v9 vN 0 v36 v37 v38 v39 v40 v41 0 0 0 0 0))] H := by rw [hH]; exact hP
  replace hS : va_S A s.heap H locs := by rw [hH, hlocs]; exact hS
  rw [← hH, ← hlocs]
  clear hlocs hH
  have hl := lv_entry ([.ref a0, .int x]) (n := 2) (Nat.le_of_ble_eq_true rfl)
  rw [lg_entry_eq]
  generalize (lg_sl ([.ref a0, .int x]) ++ List.replicate (2 - (lg_sl ([.ref a0, .int x])).length) Slot.unset).toArray = ls at hl ⊢
  replace hl : lv_has ls 2 [(0, .ref a0), (1, .int x)] := hl
  refine lv_iload_n hx hb dX12_later_0 rfl (lv_at hl 1 rfl) ?_
  refine lv_iconst (v := 0) hx hb dX12_later_1 (by decide) ?_
  refine lv_sipush (v := 1000) hx hb dX12_later_2 (by decide) ?_
  have hPc := hP.sub (ws' := []) [] rfl
  refine vp_callSi (va_runS (As := [.int x, .int 0, .int 1000]) (rest := []) ⟨hx, hb, hml, hown, hts⟩ (m_isIn l D cI cB cL cZ x 0 1000) (va_cwS 3 hts gX12_later_X12_isIn rfl rfl rfl (by decide +kernel) ⟨Nat.le_of_ble_eq_true rfl, Nat.le_of_ble_eq_true rfl⟩) ⟨xr_blind, fun U hU hW => xr_mk hU hW hPc hK⟩ rfl rfl hl.1 rfl (lv_room (Nat.le_of_ble_eq_true rfl)) dX12_later_5 ⟨Nat.le_of_ble_eq_true rfl, Nat.le_of_ble_eq_true rfl⟩).run (fun r_1 hr_1 => ?_)
  clear hPc
  rcases hr_1 with ⟨rfl, hr_1_0, hr_1_1⟩ | ⟨rfl, hr_1_0⟩ | ⟨rfl, hr_1_0, hr_1_1⟩
  · refine lv_if_eq (tgt := 23) hx hb dX12_later_8 (by decide) (fun c_2 => absurd c_2 (by decide)) (fun _ => ?_)
    refine lv_aload_n hx hb dX12_later_11 rfl (lv_at hl 0 rfl) ?_
    refine va_get (D := D) (ci := 12) (v := .int 0) (C := RX12) (T := TX12) (N := 71) hx hb hts iw_X12_later_X12 hown hK hP 0 rfl rfl 68 (by decide) (hts (.fieldLink RX12 505 "SoldHouseModel" "time" "I") (List.mem_of_getElem? (i := 1) rfl)) (fun _ h9 => h9) rfl dX12_later_12 ?_
    refine lv_iload_n hx hb dX12_later_15 rfl (lv_at hl 1 rfl) ?_
    refine lv_iadd hx hb dX12_later_16 ?_
    refine lv_topi (fun y_3 ey_3 => ?_)
    rw [Int32.zero_add] at ey_3
    replace ey_3 := ey_3.symm
    subst ey_3
    refine lv_ldcw hx hb hown (hts (.constant RX12 512 (100000)) (List.mem_of_getElem? (i := 2) rfl)) dX12_later_17 ?_
    refine lv_icmp_le (tgt := 25) hx hb dX12_later_20 (by decide) (fun c_4 => ?_) (fun c_4 => ?_)
    · refine lv_aload_n hx hb dX12_later_25 rfl (lv_at hl 0 rfl) ?_
      refine lv_dup hx hb dX12_later_26 rfl ?_
      refine va_get (D := D) (ci := 12) (v := .int 0) (C := RX12) (T := TX12) (N := 71) hx hb hts iw_X12_later_X12 hown hK hP 0 rfl rfl 68 (by decide) (hts (.fieldLink RX12 505 "SoldHouseModel" "time" "I") (List.mem_of_getElem? (i := 1) rfl)) (fun _ h9 => h9) rfl dX12_later_27 ?_
      refine lv_iload_n hx hb dX12_later_30 rfl (lv_at hl 1 rfl) ?_
      refine lv_iadd hx hb dX12_later_31 ?_
      refine lv_topi (fun y_5 ey_5 => ?_)
      rw [Int32.zero_add] at ey_5
      replace ey_5 := ey_5.symm
      subst ey_5
      refine va_put (D := D) (ci := 12) (v := .int x) (ty := tyX12 68) (C := RX12) (T := TX12) (N := 71) hx hb hts iw_X12_later_X12 tyX12 tyX12_ok nmX12 hown hK hP hD hS 0 rfl rfl 68 (by decide) (hts (.fieldLink RX12 505 "SoldHouseModel" "time" "I") (List.mem_of_getElem? (i := 1) rfl)) (fun _ h9 => h9) rfl (by decide +kernel) rfl rfl (Nat.le_of_ble_eq_true rfl) dX12_later_32 (fun H locs hP hD hS => ?_)
      replace hP : va_P D classes [(a0, .inr (12, MF ad 0 v3 0 (-1) v6 v7 v8 v9 vN 0 v36 v37 v38 v39 v40 v41 0 0 0 0 x))] H := hP
      replace hD : va_D A [(a0, .inr (12, MF ad 0 v3 0 (-1) v6 v7 v8 v9 vN 0 v36 v37 v38 v39 v40 v41 0 0 0 0 x))] := hD
      refine lv_aload_n hx hb dX12_later_35 rfl (lv_at hl 0 rfl) ?_
      refine va_get (D := D) (ci := 12) (v := .int x) (C := RX12) (T := TX12) (N := 71) hx hb hts iw_X12_later_X12 hown hK hP 0 rfl rfl 68 (by decide) (hts (.fieldLink RX12 505 "SoldHouseModel" "time" "I") (List.mem_of_getElem? (i := 1) rfl)) (fun _ h9 => h9) rfl dX12_later_36 ?_
      refine W.widen (k := 0) (n := 0) (Nat.le_of_ble_eq_true rfl) (Nat.le_of_ble_eq_true rfl) ?_
      exact W.iret (v := x) hx hb hr (fun t ht hW => ⟨⟨x, (), rfl, (sp_later_in hr_1_0 hr_1_1).symm, trivial⟩, hS.F ht⟩) hS.2.2 dX12_later_39
    · exact (zz_ab3 (Int32.not_le.mp c_4) hr_1_1 (by decide)).elim
  · refine lv_if_eq (tgt := 23) hx hb dX12_later_8 (by decide) (fun _ => ?_) (fun c_6 => absurd (by decide) c_6)
    refine lv_iconst (v := (-1)) hx hb dX12_later_23 (by decide) ?_
    refine W.widen (k := 0) (n := 0) (Nat.le_of_ble_eq_true rfl) (Nat.le_of_ble_eq_true rfl) ?_
    exact W.iret (v := (-1)) hx hb hr (fun t ht hW => ⟨⟨(-1), (), rfl, (sp_later_lt hr_1_0).symm, trivial⟩, hS.F ht⟩) hS.2.2 dX12_later_24
  · refine lv_if_eq (tgt := 23) hx hb dX12_later_8 (by decide) (fun _ => ?_) (fun c_7 => absurd (by decide) c_7)
    refine lv_iconst (v := (-1)) hx hb dX12_later_23 (by decide) ?_
    refine W.widen (k := 0) (n := 0) (Nat.le_of_ble_eq_true rfl) (Nat.le_of_ble_eq_true rfl) ?_
    exact W.iret (v := (-1)) hx hb hr (fun t ht hW => ⟨⟨(-1), (), rfl, (sp_later_gt hr_1_0 hr_1_1).symm, trivial⟩, hS.F ht⟩) hS.2.2 dX12_later_24
set_option maxHeartbeats 4000000 in
set_option maxRecDepth 100000 in
theorem m_told (l : Launch) (D : va_G) (cI : ClassId) (cB : ClassId) (cL : ClassId) (cZ : ClassId) (a0 : Nat) (ad : Nat → Nat) (v3 : Int32) (v6 : Int32) (v7 : Int32) (v8 : Int32) (v9 : Int32) (v36 : Int32) (v37 : Int32) (v38 : Int32) (v39 : Int32) (v40 : Int32) (v41 : Int32) (vN : Int64) (t0 : Nat → Int32) (t1 : Nat → Int32) (t2 : Nat → Int32) (t3 : Nat → Int32) (t4 : Nat → Int32) (t5 : Nat → Int32) (x : Int32) (y : Int32) (z : Int32) (w : Int32) (sz : Nat) : Met l yX12_told wsX12_told ({ frames := 1, cells := 0, slots := 0, locals := 22 }) (xp D [(cI, .int), (cB, .byte), (cL, .long), (cZ, .boolean)] [(a0, .inr (12, MF ad 0 v3 0 (-1) v6 v7 v8 v9 vN 0 v36 v37 v38 v39 v40 v41 0 0 0 0 0)), ((ad 59), .inl (cI, 30, .inl t0)), ((ad 60), .inl (cI, 30, .inl t1)), ((ad 61), .inl (cI, 30, .inl t2)), ((ad 62), .inl (cI, 30, .inl t3)), ((ad 63), .inl (cI, 30, .inl t4)), ((ad 64), .inl (cI, 30, .inl t5))] sz [] [.ref a0, .int x, .int y, .int z, .int w]) (va_Qi (fun (r : Int32) (_ : Unit) => r = sp_rng 7 x) (fun (_ : Unit) (_ : State) => True) (va_A [(a0, .inr (12, MF ad 0 v3 0 (-1) v6 v7 v8 v9 vN 0 v36 v37 v38 v39 v40 v41 0 0 0 0 0)), ((ad 59), .inl (cI, 30, .inl t0)), ((ad 60), .inl (cI, 30, .inl t1)), ((ad 61), .inl (cI, 30, .inl t2)), ((ad 62), .inl (cI, 30, .inl t3)), ((ad 63), .inl (cI, 30, .inl t4)), ((ad 64), .inl (cI, 30, .inl t5))] sz)) 0 0 (va_A [(a0, .inr (12, MF ad 0 v3 0 (-1) v6 v7 v8 v9 vN 0 v36 v37 v38 v39 v40 v41 0 0 0 0 0)), ((ad 59), .inl (cI, 30, .inl t0)), ((ad 60), .inl (cI, 30, .inl t1)), ((ad 61), .inl (cI, 30, .inl t2)), ((ad 62), .inl (cI, 30, .inl t3)), ((ad 63), .inl (cI, 30, .inl t4)), ((ad 64), .inl (cI, 30, .inl t5))] sz) := by
  refine Met.ofW (cc := cX12_told) (maxL := 5) (ret := (some .int)) (by decide) rfl ?_
  intro p e s m args below meth c s₁ B hml hv
  obtain ⟨rfl, hsz, hP, hK, hD0, hNw⟩ := hv
  have hx := B.exec
  have hb := B.bytes
  have hr := B.returns
  have hts := atoms_spec (ws := wsX12_told) B.pre
  have hown : s.vm.findClass RX12 = some m.cls := findClass_of_methodNamed B.named
  have hlocks := B.notSynchronized
  subst hsz
  have hD := hD0.self (sz := s.heap.size)
  clear hD0
  generalize hAe : va_A [(a0, .inr (12, MF ad 0 v3 0 (-1) v6 v7 v8 v9 vN 0 v36 v37 v38 v39 v40 v41 0 0 0 0 0)), ((ad 59), .inl (cI, 30, .inl t0)), ((ad 60), .inl (cI, 30, .inl t1)), ((ad 61), .inl (cI, 30, .inl t2)), ((ad 62), .inl (cI, 30, .inl t3)), ((ad 63), .inl (cI, 30, .inl t4)), ((ad 64), .inl (cI, 30, .inl t5))] s.heap.size = A at hD ⊢
  have hA : ∀ q : Nat, s.heap.size ≤ q → A q := fun q h => by rw [← hAe]; exact Or.inr h
  have hS : va_S A s.heap s.heap [] := va_S.rf
  clear hAe
  obtain ⟨H, hH⟩ : ∃ H : Heap, H = s.heap := ⟨_, rfl⟩
  obtain ⟨locs, hlocs⟩ : ∃ L : List Loc, L = [] := ⟨_, rfl⟩
  replace hP : va_P D classes [(a0, .inr (12, MF ad 0 v3 0 (-1) v6 v7 v8 v9 vN 0 v36 v37 v38 v39 v40 v41 0 0 0 0 0)), ((ad 59), .inl (cI, 30, .inl t0)), ((ad 60), .inl (cI, 30, .inl t1)), ((ad 61), .inl (cI, 30, .inl t2)), ((ad 62), .inl (cI, 30, .inl t3)), ((ad 63), .inl (cI, 30, .inl t4)), ((ad 64), .inl (cI, 30, .inl t5))] H := by rw [hH]; exact hP
  replace hS : va_S A s.heap H locs := by rw [hH, hlocs]; exact hS
  rw [← hH, ← hlocs]
  clear hlocs hH
  have hl := lv_entry ([.ref a0, .int x, .int y, .int z, .int w]) (n := 5) (Nat.le_of_ble_eq_true rfl)
  rw [lg_entry_eq]
  generalize (lg_sl ([.ref a0, .int x, .int y, .int z, .int w]) ++ List.replicate (5 - (lg_sl ([.ref a0, .int x, .int y, .int z, .int w])).length) Slot.unset).toArray = ls at hl ⊢
  replace hl : lv_has ls 5 [(0, .ref a0), (1, .int x), (2, .int y), (3, .int z), (4, .int w)] := hl
  refine lv_iload_n hx hb dX12_told_0 rfl (lv_at hl 1 rfl) ?_
  refine lv_iconst (v := 0) hx hb dX12_told_1 (by decide) ?_
  refine lv_bipush (v := 7) hx hb dX12_told_2 (by decide) ?_
  have hPc := hP.sub (ws' := []) [] rfl
  refine vp_callSi (va_runS (As := [.int x, .int 0, .int 7]) (rest := []) ⟨hx, hb, hml, hown, hts⟩ (m_isIn l D cI cB cL cZ x 0 7) (va_cwS 3 hts gX12_told_X12_isIn rfl rfl rfl (by decide +kernel) ⟨Nat.le_of_ble_eq_true rfl, Nat.le_of_ble_eq_true rfl⟩) ⟨xr_blind, fun U hU hW => xr_mk hU hW hPc hK⟩ rfl rfl hl.1 rfl (lv_room (Nat.le_of_ble_eq_true rfl)) dX12_told_4 ⟨Nat.le_of_ble_eq_true rfl, Nat.le_of_ble_eq_true rfl⟩).run (fun r_1 hr_1 => ?_)
  clear hPc
  rcases hr_1 with ⟨rfl, hr_1_0, hr_1_1⟩ | ⟨rfl, hr_1_0⟩ | ⟨rfl, hr_1_0, hr_1_1⟩
  · refine lv_if_eq (tgt := 19) hx hb dX12_told_7 (by decide) (fun c_2 => absurd c_2 (by decide)) (fun _ => ?_)
    refine lv_aload_n hx hb dX12_told_10 rfl (lv_at hl 0 rfl) ?_
    refine va_get (D := D) (ci := 12) (v := .int 0) (C := RX12) (T := TX12) (N := 71) hx hb hts iw_X12_told_X12 hown hK hP 0 rfl rfl 67 (by decide) (hts (.fieldLink RX12 415 "SoldHouseModel" "heards" "I") (List.mem_of_getElem? (i := 1) rfl)) (fun _ h9 => h9) rfl dX12_told_11 ?_
    refine lv_bipush (v := 30) hx hb dX12_told_14 (by decide) ?_
    refine lv_icmp_ne (tgt := 21) hx hb dX12_told_16 (by decide) (fun _ => ?_) (fun c_3 => absurd c_3 (by decide))
    refine lv_aload_n hx hb dX12_told_21 rfl (lv_at hl 0 rfl) ?_
    refine va_get (D := D) (ci := 12) (v := .ref (ad 59)) (C := RX12) (T := TX12) (N := 71) hx hb hts iw_X12_told_X12 hown hK hP 0 rfl rfl 59 (by decide) (hts (.fieldLink RX12 137 "SoldHouseModel" "hMinute" "[I") (List.mem_of_getElem? (i := 2) rfl)) (fun _ h9 => h9) rfl dX12_told_22 ?_
    refine lv_aload_n hx hb dX12_told_25 rfl (lv_at hl 0 rfl) ?_
    refine va_get (D := D) (ci := 12) (v := .int 0) (C := RX12) (T := TX12) (N := 71) hx hb hts iw_X12_told_X12 hown hK hP 0 rfl rfl 67 (by decide) (hts (.fieldLink RX12 415 "SoldHouseModel" "heards" "I") (List.mem_of_getElem? (i := 1) rfl)) (fun _ h9 => h9) rfl dX12_told_26 ?_
    refine lv_iload_n hx hb dX12_told_29 rfl (lv_at hl 1 rfl) ?_
    refine va_iast hx hb hK hP hD hS 1 0 rfl rfl (show vp_in 0 30 from (by decide : ¬ ((0 : Int32) < 0 ∨ 30 ≤ Int32.toNatClampNeg 0))) dX12_told_30 (fun H locs hP hD hS => ?_)
    replace hP : va_P D classes [(a0, .inr (12, MF ad 0 v3 0 (-1) v6 v7 v8 v9 vN 0 v36 v37 v38 v39 v40 v41 0 0 0 0 0)), ((ad 59), .inl (cI, 30, .inl (upd t0 (Int32.toNatClampNeg 0) x))), ((ad 60), .inl (cI, 30, .inl t1)), ((ad 61), .inl (cI, 30, .inl t2)), ((ad 62), .inl (cI, 30, .inl t3)), ((ad 63), .inl (cI, 30, .inl t4)), ((ad 64), .inl (cI, 30, .inl t5))] H := hP
    replace hD : va_D A [(a0, .inr (12, MF ad 0 v3 0 (-1) v6 v7 v8 v9 vN 0 v36 v37 v38 v39 v40 v41 0 0 0 0 0)), ((ad 59), .inl (cI, 30, .inl (upd t0 (Int32.toNatClampNeg 0) x))), ((ad 60), .inl (cI, 30, .inl t1)), ((ad 61), .inl (cI, 30, .inl t2)), ((ad 62), .inl (cI, 30, .inl t3)), ((ad 63), .inl (cI, 30, .inl t4)), ((ad 64), .inl (cI, 30, .inl t5))] := hD
    generalize eg_4 : upd t0 (Int32.toNatClampNeg 0) x = g_4 at hP hD
    clear eg_4
    refine lv_aload_n hx hb dX12_told_31 rfl (lv_at hl 0 rfl) ?_
    refine va_get (D := D) (ci := 12) (v := .ref (ad 60)) (C := RX12) (T := TX12) (N := 71) hx hb hts iw_X12_told_X12 hown hK hP 0 rfl rfl 60 (by decide) (hts (.fieldLink RX12 140 "SoldHouseModel" "hCreaks" "[I") (List.mem_of_getElem? (i := 3) rfl)) (fun _ h9 => h9) rfl dX12_told_32 ?_
    refine lv_aload_n hx hb dX12_told_35 rfl (lv_at hl 0 rfl) ?_
    refine va_get (D := D) (ci := 12) (v := .int 0) (C := RX12) (T := TX12) (N := 71) hx hb hts iw_X12_told_X12 hown hK hP 0 rfl rfl 67 (by decide) (hts (.fieldLink RX12 415 "SoldHouseModel" "heards" "I") (List.mem_of_getElem? (i := 1) rfl)) (fun _ h9 => h9) rfl dX12_told_36 ?_
    refine lv_iload_n hx hb dX12_told_39 rfl (lv_at hl 2 rfl) ?_
    refine va_iast hx hb hK hP hD hS 2 0 rfl rfl (show vp_in 0 30 from (by decide : ¬ ((0 : Int32) < 0 ∨ 30 ≤ Int32.toNatClampNeg 0))) dX12_told_40 (fun H locs hP hD hS => ?_)
    replace hP : va_P D classes [(a0, .inr (12, MF ad 0 v3 0 (-1) v6 v7 v8 v9 vN 0 v36 v37 v38 v39 v40 v41 0 0 0 0 0)), ((ad 59), .inl (cI, 30, .inl g_4)), ((ad 60), .inl (cI, 30, .inl (upd t1 (Int32.toNatClampNeg 0) y))), ((ad 61), .inl (cI, 30, .inl t2)), ((ad 62), .inl (cI, 30, .inl t3)), ((ad 63), .inl (cI, 30, .inl t4)), ((ad 64), .inl (cI, 30, .inl t5))] H := hP
    replace hD : va_D A [(a0, .inr (12, MF ad 0 v3 0 (-1) v6 v7 v8 v9 vN 0 v36 v37 v38 v39 v40 v41 0 0 0 0 0)), ((ad 59), .inl (cI, 30, .inl g_4)), ((ad 60), .inl (cI, 30, .inl (upd t1 (Int32.toNatClampNeg 0) y))), ((ad 61), .inl (cI, 30, .inl t2)), ((ad 62), .inl (cI, 30, .inl t3)), ((ad 63), .inl (cI, 30, .inl t4)), ((ad 64), .inl (cI, 30, .inl t5))] := hD
    generalize eg_5 : upd t1 (Int32.toNatClampNeg 0) y = g_5 at hP hD
    clear eg_5
    refine lv_aload_n hx hb dX12_told_41 rfl (lv_at hl 0 rfl) ?_
    refine va_get (D := D) (ci := 12) (v := .ref (ad 61)) (C := RX12) (T := TX12) (N := 71) hx hb hts iw_X12_told_X12 hown hK hP 0 rfl rfl 61 (by decide) (hts (.fieldLink RX12 143 "SoldHouseModel" "hRoom" "[I") (List.mem_of_getElem? (i := 4) rfl)) (fun _ h9 => h9) rfl dX12_told_42 ?_
    refine lv_aload_n hx hb dX12_told_45 rfl (lv_at hl 0 rfl) ?_
    refine va_get (D := D) (ci := 12) (v := .int 0) (C := RX12) (T := TX12) (N := 71) hx hb hts iw_X12_told_X12 hown hK hP 0 rfl rfl 67 (by decide) (hts (.fieldLink RX12 415 "SoldHouseModel" "heards" "I") (List.mem_of_getElem? (i := 1) rfl)) (fun _ h9 => h9) rfl dX12_told_46 ?_
    refine lv_iload_n hx hb dX12_told_49 rfl (lv_at hl 3 rfl) ?_
    refine va_iast hx hb hK hP hD hS 3 0 rfl rfl (show vp_in 0 30 from (by decide : ¬ ((0 : Int32) < 0 ∨ 30 ≤ Int32.toNatClampNeg 0))) dX12_told_50 (fun H locs hP hD hS => ?_)
    replace hP : va_P D classes [(a0, .inr (12, MF ad 0 v3 0 (-1) v6 v7 v8 v9 vN 0 v36 v37 v38 v39 v40 v41 0 0 0 0 0)), ((ad 59), .inl (cI, 30, .inl g_4)), ((ad 60), .inl (cI, 30, .inl g_5)), ((ad 61), .inl (cI, 30, .inl (upd t2 (Int32.toNatClampNeg 0) z))), ((ad 62), .inl (cI, 30, .inl t3)), ((ad 63), .inl (cI, 30, .inl t4)), ((ad 64), .inl (cI, 30, .inl t5))] H := hP
    replace hD : va_D A [(a0, .inr (12, MF ad 0 v3 0 (-1) v6 v7 v8 v9 vN 0 v36 v37 v38 v39 v40 v41 0 0 0 0 0)), ((ad 59), .inl (cI, 30, .inl g_4)), ((ad 60), .inl (cI, 30, .inl g_5)), ((ad 61), .inl (cI, 30, .inl (upd t2 (Int32.toNatClampNeg 0) z))), ((ad 62), .inl (cI, 30, .inl t3)), ((ad 63), .inl (cI, 30, .inl t4)), ((ad 64), .inl (cI, 30, .inl t5))] := hD
    generalize eg_6 : upd t2 (Int32.toNatClampNeg 0) z = g_6 at hP hD
    clear eg_6
    refine lv_aload_n hx hb dX12_told_51 rfl (lv_at hl 0 rfl) ?_
    refine va_get (D := D) (ci := 12) (v := .ref (ad 62)) (C := RX12) (T := TX12) (N := 71) hx hb hts iw_X12_told_X12 hown hK hP 0 rfl rfl 62 (by decide) (hts (.fieldLink RX12 146 "SoldHouseModel" "hIs" "[I") (List.mem_of_getElem? (i := 5) rfl)) (fun _ h9 => h9) rfl dX12_told_52 ?_
    refine lv_aload_n hx hb dX12_told_55 rfl (lv_at hl 0 rfl) ?_
    refine va_get (D := D) (ci := 12) (v := .int 0) (C := RX12) (T := TX12) (N := 71) hx hb hts iw_X12_told_X12 hown hK hP 0 rfl rfl 67 (by decide) (hts (.fieldLink RX12 415 "SoldHouseModel" "heards" "I") (List.mem_of_getElem? (i := 1) rfl)) (fun _ h9 => h9) rfl dX12_told_56 ?_
    refine lv_iload hx hb dX12_told_59 (lv_at hl 4 rfl) ?_
    refine lv_if_eq (tgt := 68) hx hb dX12_told_61 (by decide) (fun c_7 => ?_) (fun c_7 => ?_)
    · obtain rfl : w = 0 := c_7
      refine lv_iconst (v := 0) hx hb dX12_told_68 (by decide) ?_
      refine va_iast hx hb hK hP hD hS 4 0 rfl rfl (show vp_in 0 30 from (by decide : ¬ ((0 : Int32) < 0 ∨ 30 ≤ Int32.toNatClampNeg 0))) dX12_told_69 (fun H locs hP hD hS => ?_)
      replace hP : va_P D classes [(a0, .inr (12, MF ad 0 v3 0 (-1) v6 v7 v8 v9 vN 0 v36 v37 v38 v39 v40 v41 0 0 0 0 0)), ((ad 59), .inl (cI, 30, .inl g_4)), ((ad 60), .inl (cI, 30, .inl g_5)), ((ad 61), .inl (cI, 30, .inl g_6)), ((ad 62), .inl (cI, 30, .inl (upd t3 (Int32.toNatClampNeg 0) 0))), ((ad 63), .inl (cI, 30, .inl t4)), ((ad 64), .inl (cI, 30, .inl t5))] H := hP
      replace hD : va_D A [(a0, .inr (12, MF ad 0 v3 0 (-1) v6 v7 v8 v9 vN 0 v36 v37 v38 v39 v40 v41 0 0 0 0 0)), ((ad 59), .inl (cI, 30, .inl g_4)), ((ad 60), .inl (cI, 30, .inl g_5)), ((ad 61), .inl (cI, 30, .inl g_6)), ((ad 62), .inl (cI, 30, .inl (upd t3 (Int32.toNatClampNeg 0) 0))), ((ad 63), .inl (cI, 30, .inl t4)), ((ad 64), .inl (cI, 30, .inl t5))] := hD
      generalize eg_8 : upd t3 (Int32.toNatClampNeg 0) 0 = g_8 at hP hD
      clear eg_8
      refine lv_aload_n hx hb dX12_told_70 rfl (lv_at hl 0 rfl) ?_
      refine va_get (D := D) (ci := 12) (v := .ref (ad 63)) (C := RX12) (T := TX12) (N := 71) hx hb hts iw_X12_told_X12 hown hK hP 0 rfl rfl 63 (by decide) (hts (.fieldLink RX12 149 "SoldHouseModel" "hTold" "[I") (List.mem_of_getElem? (i := 6) rfl)) (fun _ h9 => h9) rfl dX12_told_71 ?_
      refine lv_aload_n hx hb dX12_told_74 rfl (lv_at hl 0 rfl) ?_
      refine va_get (D := D) (ci := 12) (v := .int 0) (C := RX12) (T := TX12) (N := 71) hx hb hts iw_X12_told_X12 hown hK hP 0 rfl rfl 67 (by decide) (hts (.fieldLink RX12 415 "SoldHouseModel" "heards" "I") (List.mem_of_getElem? (i := 1) rfl)) (fun _ h9 => h9) rfl dX12_told_75 ?_
      refine lv_aload_n hx hb dX12_told_78 rfl (lv_at hl 0 rfl) ?_
      refine va_get (D := D) (ci := 12) (v := .int 0) (C := RX12) (T := TX12) (N := 71) hx hb hts iw_X12_told_X12 hown hK hP 0 rfl rfl 68 (by decide) (hts (.fieldLink RX12 505 "SoldHouseModel" "time" "I") (List.mem_of_getElem? (i := 7) rfl)) (fun _ h9 => h9) rfl dX12_told_79 ?_
      refine va_iast hx hb hK hP hD hS 5 0 rfl rfl (show vp_in 0 30 from (by decide : ¬ ((0 : Int32) < 0 ∨ 30 ≤ Int32.toNatClampNeg 0))) dX12_told_82 (fun H locs hP hD hS => ?_)
      replace hP : va_P D classes [(a0, .inr (12, MF ad 0 v3 0 (-1) v6 v7 v8 v9 vN 0 v36 v37 v38 v39 v40 v41 0 0 0 0 0)), ((ad 59), .inl (cI, 30, .inl g_4)), ((ad 60), .inl (cI, 30, .inl g_5)), ((ad 61), .inl (cI, 30, .inl g_6)), ((ad 62), .inl (cI, 30, .inl g_8)), ((ad 63), .inl (cI, 30, .inl (upd t4 (Int32.toNatClampNeg 0) 0))), ((ad 64), .inl (cI, 30, .inl t5))] H := hP
      replace hD : va_D A [(a0, .inr (12, MF ad 0 v3 0 (-1) v6 v7 v8 v9 vN 0 v36 v37 v38 v39 v40 v41 0 0 0 0 0)), ((ad 59), .inl (cI, 30, .inl g_4)), ((ad 60), .inl (cI, 30, .inl g_5)), ((ad 61), .inl (cI, 30, .inl g_6)), ((ad 62), .inl (cI, 30, .inl g_8)), ((ad 63), .inl (cI, 30, .inl (upd t4 (Int32.toNatClampNeg 0) 0))), ((ad 64), .inl (cI, 30, .inl t5))] := hD
      generalize eg_9 : upd t4 (Int32.toNatClampNeg 0) 0 = g_9 at hP hD
      clear eg_9
      refine lv_aload_n hx hb dX12_told_83 rfl (lv_at hl 0 rfl) ?_
      refine va_get (D := D) (ci := 12) (v := .ref (ad 64)) (C := RX12) (T := TX12) (N := 71) hx hb hts iw_X12_told_X12 hown hK hP 0 rfl rfl 64 (by decide) (hts (.fieldLink RX12 152 "SoldHouseModel" "hUntold" "[I") (List.mem_of_getElem? (i := 8) rfl)) (fun _ h9 => h9) rfl dX12_told_84 ?_
      refine lv_aload_n hx hb dX12_told_87 rfl (lv_at hl 0 rfl) ?_
      refine va_get (D := D) (ci := 12) (v := .int 0) (C := RX12) (T := TX12) (N := 71) hx hb hts iw_X12_told_X12 hown hK hP 0 rfl rfl 67 (by decide) (hts (.fieldLink RX12 415 "SoldHouseModel" "heards" "I") (List.mem_of_getElem? (i := 1) rfl)) (fun _ h9 => h9) rfl dX12_told_88 ?_
      refine lv_iconst (v := (-1)) hx hb dX12_told_91 (by decide) ?_
      refine va_iast hx hb hK hP hD hS 6 0 rfl rfl (show vp_in 0 30 from (by decide : ¬ ((0 : Int32) < 0 ∨ 30 ≤ Int32.toNatClampNeg 0))) dX12_told_92 (fun H locs hP hD hS => ?_)
      replace hP : va_P D classes [(a0, .inr (12, MF ad 0 v3 0 (-1) v6 v7 v8 v9 vN 0 v36 v37 v38 v39 v40 v41 0 0 0 0 0)), ((ad 59), .inl (cI, 30, .inl g_4)), ((ad 60), .inl (cI, 30, .inl g_5)), ((ad 61), .inl (cI, 30, .inl g_6)), ((ad 62), .inl (cI, 30, .inl g_8)), ((ad 63), .inl (cI, 30, .inl g_9)), ((ad 64), .inl (cI, 30, .inl (upd t5 (Int32.toNatClampNeg 0) (-1))))] H := hP
      replace hD : va_D A [(a0, .inr (12, MF ad 0 v3 0 (-1) v6 v7 v8 v9 vN 0 v36 v37 v38 v39 v40 v41 0 0 0 0 0)), ((ad 59), .inl (cI, 30, .inl g_4)), ((ad 60), .inl (cI, 30, .inl g_5)), ((ad 61), .inl (cI, 30, .inl g_6)), ((ad 62), .inl (cI, 30, .inl g_8)), ((ad 63), .inl (cI, 30, .inl g_9)), ((ad 64), .inl (cI, 30, .inl (upd t5 (Int32.toNatClampNeg 0) (-1))))] := hD
      generalize eg_10 : upd t5 (Int32.toNatClampNeg 0) (-1) = g_10 at hP hD
      clear eg_10
      refine lv_aload_n hx hb dX12_told_93 rfl (lv_at hl 0 rfl) ?_
      refine lv_dup hx hb dX12_told_94 rfl ?_
      refine va_get (D := D) (ci := 12) (v := .int 0) (C := RX12) (T := TX12) (N := 71) hx hb hts iw_X12_told_X12 hown hK hP 0 rfl rfl 67 (by decide) (hts (.fieldLink RX12 415 "SoldHouseModel" "heards" "I") (List.mem_of_getElem? (i := 1) rfl)) (fun _ h9 => h9) rfl dX12_told_95 ?_
      refine lv_iconst (v := 1) hx hb dX12_told_98 (by decide) ?_
      refine lv_iadd hx hb dX12_told_99 ?_
      refine lv_topi (fun y_11 ey_11 => ?_)
      obtain rfl : y_11 = 1 := ey_11.trans (by decide)
      refine va_put (D := D) (ci := 12) (v := .int 1) (ty := tyX12 67) (C := RX12) (T := TX12) (N := 71) hx hb hts iw_X12_told_X12 tyX12 tyX12_ok nmX12 hown hK hP hD hS 0 rfl rfl 67 (by decide) (hts (.fieldLink RX12 415 "SoldHouseModel" "heards" "I") (List.mem_of_getElem? (i := 1) rfl)) (fun _ h9 => h9) rfl (by decide +kernel) rfl rfl (Nat.le_of_ble_eq_true rfl) dX12_told_100 (fun H locs hP hD hS => ?_)
      replace hP : va_P D classes [(a0, .inr (12, MF ad 0 v3 0 (-1) v6 v7 v8 v9 vN 0 v36 v37 v38 v39 v40 v41 0 0 0 1 0)), ((ad 59), .inl (cI, 30, .inl g_4)), ((ad 60), .inl (cI, 30, .inl g_5)), ((ad 61), .inl (cI, 30, .inl g_6)), ((ad 62), .inl (cI, 30, .inl g_8)), ((ad 63), .inl (cI, 30, .inl g_9)), ((ad 64), .inl (cI, 30, .inl g_10))] H := hP
      replace hD : va_D A [(a0, .inr (12, MF ad 0 v3 0 (-1) v6 v7 v8 v9 vN 0 v36 v37 v38 v39 v40 v41 0 0 0 1 0)), ((ad 59), .inl (cI, 30, .inl g_4)), ((ad 60), .inl (cI, 30, .inl g_5)), ((ad 61), .inl (cI, 30, .inl g_6)), ((ad 62), .inl (cI, 30, .inl g_8)), ((ad 63), .inl (cI, 30, .inl g_9)), ((ad 64), .inl (cI, 30, .inl g_10))] := hD
      refine lv_aload_n hx hb dX12_told_103 rfl (lv_at hl 0 rfl) ?_
      refine va_get (D := D) (ci := 12) (v := .int 1) (C := RX12) (T := TX12) (N := 71) hx hb hts iw_X12_told_X12 hown hK hP 0 rfl rfl 67 (by decide) (hts (.fieldLink RX12 415 "SoldHouseModel" "heards" "I") (List.mem_of_getElem? (i := 1) rfl)) (fun _ h9 => h9) rfl dX12_told_104 ?_
      refine lv_iconst (v := 1) hx hb dX12_told_107 (by decide) ?_
      refine lv_isub hx hb dX12_told_108 ?_
      refine lv_topi (fun y_12 ey_12 => ?_)
      obtain rfl : y_12 = 0 := ey_12.trans (by decide)
      refine W.widen (k := 0) (n := 0) (Nat.le_of_ble_eq_true rfl) (Nat.le_of_ble_eq_true rfl) ?_
      exact W.iret (v := 0) hx hb hr (fun t ht hW => ⟨⟨0, (), rfl, (sp_rng_in hr_1_0 hr_1_1).symm, trivial⟩, hS.F ht⟩) hS.2.2 dX12_told_109
    · refine lv_iconst (v := 1) hx hb dX12_told_64 (by decide) ?_
      refine lv_goto (tgt := 69) hx hb dX12_told_65 (by decide) ?_
      refine va_iast hx hb hK hP hD hS 4 0 rfl rfl (show vp_in 0 30 from (by decide : ¬ ((0 : Int32) < 0 ∨ 30 ≤ Int32.toNatClampNeg 0))) dX12_told_69 (fun H locs hP hD hS => ?_)
      replace hP : va_P D classes [(a0, .inr (12, MF ad 0 v3 0 (-1) v6 v7 v8 v9 vN 0 v36 v37 v38 v39 v40 v41 0 0 0 0 0)), ((ad 59), .inl (cI, 30, .inl g_4)), ((ad 60), .inl (cI, 30, .inl g_5)), ((ad 61), .inl (cI, 30, .inl g_6)), ((ad 62), .inl (cI, 30, .inl (upd t3 (Int32.toNatClampNeg 0) 1))), ((ad 63), .inl (cI, 30, .inl t4)), ((ad 64), .inl (cI, 30, .inl t5))] H := hP
      replace hD : va_D A [(a0, .inr (12, MF ad 0 v3 0 (-1) v6 v7 v8 v9 vN 0 v36 v37 v38 v39 v40 v41 0 0 0 0 0)), ((ad 59), .inl (cI, 30, .inl g_4)), ((ad 60), .inl (cI, 30, .inl g_5)), ((ad 61), .inl (cI, 30, .inl g_6)), ((ad 62), .inl (cI, 30, .inl (upd t3 (Int32.toNatClampNeg 0) 1))), ((ad 63), .inl (cI, 30, .inl t4)), ((ad 64), .inl (cI, 30, .inl t5))] := hD
      generalize eg_13 : upd t3 (Int32.toNatClampNeg 0) 1 = g_13 at hP hD
      clear eg_13
      refine lv_aload_n hx hb dX12_told_70 rfl (lv_at hl 0 rfl) ?_
      refine va_get (D := D) (ci := 12) (v := .ref (ad 63)) (C := RX12) (T := TX12) (N := 71) hx hb hts iw_X12_told_X12 hown hK hP 0 rfl rfl 63 (by decide) (hts (.fieldLink RX12 149 "SoldHouseModel" "hTold" "[I") (List.mem_of_getElem? (i := 6) rfl)) (fun _ h9 => h9) rfl dX12_told_71 ?_
      refine lv_aload_n hx hb dX12_told_74 rfl (lv_at hl 0 rfl) ?_
      refine va_get (D := D) (ci := 12) (v := .int 0) (C := RX12) (T := TX12) (N := 71) hx hb hts iw_X12_told_X12 hown hK hP 0 rfl rfl 67 (by decide) (hts (.fieldLink RX12 415 "SoldHouseModel" "heards" "I") (List.mem_of_getElem? (i := 1) rfl)) (fun _ h9 => h9) rfl dX12_told_75 ?_
      refine lv_aload_n hx hb dX12_told_78 rfl (lv_at hl 0 rfl) ?_
      refine va_get (D := D) (ci := 12) (v := .int 0) (C := RX12) (T := TX12) (N := 71) hx hb hts iw_X12_told_X12 hown hK hP 0 rfl rfl 68 (by decide) (hts (.fieldLink RX12 505 "SoldHouseModel" "time" "I") (List.mem_of_getElem? (i := 7) rfl)) (fun _ h9 => h9) rfl dX12_told_79 ?_
      refine va_iast hx hb hK hP hD hS 5 0 rfl rfl (show vp_in 0 30 from (by decide : ¬ ((0 : Int32) < 0 ∨ 30 ≤ Int32.toNatClampNeg 0))) dX12_told_82 (fun H locs hP hD hS => ?_)
      replace hP : va_P D classes [(a0, .inr (12, MF ad 0 v3 0 (-1) v6 v7 v8 v9 vN 0 v36 v37 v38 v39 v40 v41 0 0 0 0 0)), ((ad 59), .inl (cI, 30, .inl g_4)), ((ad 60), .inl (cI, 30, .inl g_5)), ((ad 61), .inl (cI, 30, .inl g_6)), ((ad 62), .inl (cI, 30, .inl g_13)), ((ad 63), .inl (cI, 30, .inl (upd t4 (Int32.toNatClampNeg 0) 0))), ((ad 64), .inl (cI, 30, .inl t5))] H := hP
      replace hD : va_D A [(a0, .inr (12, MF ad 0 v3 0 (-1) v6 v7 v8 v9 vN 0 v36 v37 v38 v39 v40 v41 0 0 0 0 0)), ((ad 59), .inl (cI, 30, .inl g_4)), ((ad 60), .inl (cI, 30, .inl g_5)), ((ad 61), .inl (cI, 30, .inl g_6)), ((ad 62), .inl (cI, 30, .inl g_13)), ((ad 63), .inl (cI, 30, .inl (upd t4 (Int32.toNatClampNeg 0) 0))), ((ad 64), .inl (cI, 30, .inl t5))] := hD
      generalize eg_14 : upd t4 (Int32.toNatClampNeg 0) 0 = g_14 at hP hD
      clear eg_14
      refine lv_aload_n hx hb dX12_told_83 rfl (lv_at hl 0 rfl) ?_
      refine va_get (D := D) (ci := 12) (v := .ref (ad 64)) (C := RX12) (T := TX12) (N := 71) hx hb hts iw_X12_told_X12 hown hK hP 0 rfl rfl 64 (by decide) (hts (.fieldLink RX12 152 "SoldHouseModel" "hUntold" "[I") (List.mem_of_getElem? (i := 8) rfl)) (fun _ h9 => h9) rfl dX12_told_84 ?_
      refine lv_aload_n hx hb dX12_told_87 rfl (lv_at hl 0 rfl) ?_
      refine va_get (D := D) (ci := 12) (v := .int 0) (C := RX12) (T := TX12) (N := 71) hx hb hts iw_X12_told_X12 hown hK hP 0 rfl rfl 67 (by decide) (hts (.fieldLink RX12 415 "SoldHouseModel" "heards" "I") (List.mem_of_getElem? (i := 1) rfl)) (fun _ h9 => h9) rfl dX12_told_88 ?_
      refine lv_iconst (v := (-1)) hx hb dX12_told_91 (by decide) ?_
      refine va_iast hx hb hK hP hD hS 6 0 rfl rfl (show vp_in 0 30 from (by decide : ¬ ((0 : Int32) < 0 ∨ 30 ≤ Int32.toNatClampNeg 0))) dX12_told_92 (fun H locs hP hD hS => ?_)
      replace hP : va_P D classes [(a0, .inr (12, MF ad 0 v3 0 (-1) v6 v7 v8 v9 vN 0 v36 v37 v38 v39 v40 v41 0 0 0 0 0)), ((ad 59), .inl (cI, 30, .inl g_4)), ((ad 60), .inl (cI, 30, .inl g_5)), ((ad 61), .inl (cI, 30, .inl g_6)), ((ad 62), .inl (cI, 30, .inl g_13)), ((ad 63), .inl (cI, 30, .inl g_14)), ((ad 64), .inl (cI, 30, .inl (upd t5 (Int32.toNatClampNeg 0) (-1))))] H := hP
      replace hD : va_D A [(a0, .inr (12, MF ad 0 v3 0 (-1) v6 v7 v8 v9 vN 0 v36 v37 v38 v39 v40 v41 0 0 0 0 0)), ((ad 59), .inl (cI, 30, .inl g_4)), ((ad 60), .inl (cI, 30, .inl g_5)), ((ad 61), .inl (cI, 30, .inl g_6)), ((ad 62), .inl (cI, 30, .inl g_13)), ((ad 63), .inl (cI, 30, .inl g_14)), ((ad 64), .inl (cI, 30, .inl (upd t5 (Int32.toNatClampNeg 0) (-1))))] := hD
      generalize eg_15 : upd t5 (Int32.toNatClampNeg 0) (-1) = g_15 at hP hD
      clear eg_15
      refine lv_aload_n hx hb dX12_told_93 rfl (lv_at hl 0 rfl) ?_
      refine lv_dup hx hb dX12_told_94 rfl ?_
      refine va_get (D := D) (ci := 12) (v := .int 0) (C := RX12) (T := TX12) (N := 71) hx hb hts iw_X12_told_X12 hown hK hP 0 rfl rfl 67 (by decide) (hts (.fieldLink RX12 415 "SoldHouseModel" "heards" "I") (List.mem_of_getElem? (i := 1) rfl)) (fun _ h9 => h9) rfl dX12_told_95 ?_
      refine lv_iconst (v := 1) hx hb dX12_told_98 (by decide) ?_
      refine lv_iadd hx hb dX12_told_99 ?_
      refine lv_topi (fun y_16 ey_16 => ?_)
      obtain rfl : y_16 = 1 := ey_16.trans (by decide)
      refine va_put (D := D) (ci := 12) (v := .int 1) (ty := tyX12 67) (C := RX12) (T := TX12) (N := 71) hx hb hts iw_X12_told_X12 tyX12 tyX12_ok nmX12 hown hK hP hD hS 0 rfl rfl 67 (by decide) (hts (.fieldLink RX12 415 "SoldHouseModel" "heards" "I") (List.mem_of_getElem? (i := 1) rfl)) (fun _ h9 => h9) rfl (by decide +kernel) rfl rfl (Nat.le_of_ble_eq_true rfl) dX12_told_100 (fun H locs hP hD hS => ?_)
      replace hP : va_P D classes [(a0, .inr (12, MF ad 0 v3 0 (-1) v6 v7 v8 v9 vN 0 v36 v37 v38 v39 v40 v41 0 0 0 1 0)), ((ad 59), .inl (cI, 30, .inl g_4)), ((ad 60), .inl (cI, 30, .inl g_5)), ((ad 61), .inl (cI, 30, .inl g_6)), ((ad 62), .inl (cI, 30, .inl g_13)), ((ad 63), .inl (cI, 30, .inl g_14)), ((ad 64), .inl (cI, 30, .inl g_15))] H := hP
      replace hD : va_D A [(a0, .inr (12, MF ad 0 v3 0 (-1) v6 v7 v8 v9 vN 0 v36 v37 v38 v39 v40 v41 0 0 0 1 0)), ((ad 59), .inl (cI, 30, .inl g_4)), ((ad 60), .inl (cI, 30, .inl g_5)), ((ad 61), .inl (cI, 30, .inl g_6)), ((ad 62), .inl (cI, 30, .inl g_13)), ((ad 63), .inl (cI, 30, .inl g_14)), ((ad 64), .inl (cI, 30, .inl g_15))] := hD
      refine lv_aload_n hx hb dX12_told_103 rfl (lv_at hl 0 rfl) ?_
      refine va_get (D := D) (ci := 12) (v := .int 1) (C := RX12) (T := TX12) (N := 71) hx hb hts iw_X12_told_X12 hown hK hP 0 rfl rfl 67 (by decide) (hts (.fieldLink RX12 415 "SoldHouseModel" "heards" "I") (List.mem_of_getElem? (i := 1) rfl)) (fun _ h9 => h9) rfl dX12_told_104 ?_
      refine lv_iconst (v := 1) hx hb dX12_told_107 (by decide) ?_
      refine lv_isub hx hb dX12_told_108 ?_
      refine lv_topi (fun y_17 ey_17 => ?_)
      obtain rfl : y_17 = 0 := ey_17.trans (by decide)
      refine W.widen (k := 0) (n := 0) (Nat.le_of_ble_eq_true rfl) (Nat.le_of_ble_eq_true rfl) ?_
      exact W.iret (v := 0) hx hb hr (fun t ht hW => ⟨⟨0, (), rfl, (sp_rng_in hr_1_0 hr_1_1).symm, trivial⟩, hS.F ht⟩) hS.2.2 dX12_told_109
  · refine lv_if_eq (tgt := 19) hx hb dX12_told_7 (by decide) (fun _ => ?_) (fun c_18 => absurd (by decide) c_18)
    refine lv_iconst (v := (-1)) hx hb dX12_told_19 (by decide) ?_
    refine W.widen (k := 0) (n := 0) (Nat.le_of_ble_eq_true rfl) (Nat.le_of_ble_eq_true rfl) ?_
    exact W.iret (v := (-1)) hx hb hr (fun t ht hW => ⟨⟨(-1), (), rfl, (sp_rng_lt hr_1_0).symm, trivial⟩, hS.F ht⟩) hS.2.2 dX12_told_20
  · refine lv_if_eq (tgt := 19) hx hb dX12_told_7 (by decide) (fun _ => ?_) (fun c_19 => absurd (by decide) c_19)
    refine lv_iconst (v := (-1)) hx hb dX12_told_19 (by decide) ?_
    refine W.widen (k := 0) (n := 0) (Nat.le_of_ble_eq_true rfl) (Nat.le_of_ble_eq_true rfl) ?_
    exact W.iret (v := (-1)) hx hb hr (fun t ht hW => ⟨⟨(-1), (), rfl, (sp_rng_gt hr_1_0 hr_1_1).symm, trivial⟩, hS.F ht⟩) hS.2.2 dX12_told_20
set_option maxHeartbeats 4000000 in
set_option maxRecDepth 100000 in
theorem m_heard (l : Launch) (D : va_G) (cI : ClassId) (cB : ClassId) (cL : ClassId) (cZ : ClassId) (a0 : Nat) (ad : Nat → Nat) (v3 : Int32) (v6 : Int32) (v7 : Int32) (v8 : Int32) (v9 : Int32) (v36 : Int32) (v37 : Int32) (v38 : Int32) (v39 : Int32) (v40 : Int32) (v41 : Int32) (vN : Int64) (t0 : Nat → Int32) (t1 : Nat → Int32) (t2 : Nat → Int32) (t3 : Nat → Int32) (t4 : Nat → Int32) (t5 : Nat → Int32) (x : Int32) (y : Int32) (z : Int32) (sz : Nat) : Met l yX12_heard wsX12_heard ({ frames := 2, cells := 0, slots := 0, locals := 46 }) (xp D [(cI, .int), (cB, .byte), (cL, .long), (cZ, .boolean)] [(a0, .inr (12, MF ad 0 v3 0 (-1) v6 v7 v8 v9 vN 0 v36 v37 v38 v39 v40 v41 0 0 0 0 0)), ((ad 59), .inl (cI, 30, .inl t0)), ((ad 60), .inl (cI, 30, .inl t1)), ((ad 61), .inl (cI, 30, .inl t2)), ((ad 62), .inl (cI, 30, .inl t3)), ((ad 63), .inl (cI, 30, .inl t4)), ((ad 64), .inl (cI, 30, .inl t5))] sz [] [.ref a0, .int x, .int y, .int z]) (va_Qi (fun (r : Int32) (_ : Unit) => r = sp_heard x y) (fun (_ : Unit) (_ : State) => True) (va_A [(a0, .inr (12, MF ad 0 v3 0 (-1) v6 v7 v8 v9 vN 0 v36 v37 v38 v39 v40 v41 0 0 0 0 0)), ((ad 59), .inl (cI, 30, .inl t0)), ((ad 60), .inl (cI, 30, .inl t1)), ((ad 61), .inl (cI, 30, .inl t2)), ((ad 62), .inl (cI, 30, .inl t3)), ((ad 63), .inl (cI, 30, .inl t4)), ((ad 64), .inl (cI, 30, .inl t5))] sz)) 0 0 (va_A [(a0, .inr (12, MF ad 0 v3 0 (-1) v6 v7 v8 v9 vN 0 v36 v37 v38 v39 v40 v41 0 0 0 0 0)), ((ad 59), .inl (cI, 30, .inl t0)), ((ad 60), .inl (cI, 30, .inl t1)), ((ad 61), .inl (cI, 30, .inl t2)), ((ad 62), .inl (cI, 30, .inl t3)), ((ad 63), .inl (cI, 30, .inl t4)), ((ad 64), .inl (cI, 30, .inl t5))] sz) := by
  refine Met.ofW (cc := cX12_heard) (maxL := 4) (ret := (some .int)) (by decide) rfl ?_
  intro p e s m args below meth c s₁ B hml hv
  obtain ⟨rfl, hsz, hP, hK, hD0, hNw⟩ := hv
  have hx := B.exec
  have hb := B.bytes
  have hr := B.returns
  have hts := atoms_spec (ws := wsX12_heard) B.pre
  have hown : s.vm.findClass RX12 = some m.cls := findClass_of_methodNamed B.named
  have hlocks := B.notSynchronized
  subst hsz
  have hD := hD0.self (sz := s.heap.size)
  clear hD0
  generalize hAe : va_A [(a0, .inr (12, MF ad 0 v3 0 (-1) v6 v7 v8 v9 vN 0 v36 v37 v38 v39 v40 v41 0 0 0 0 0)), ((ad 59), .inl (cI, 30, .inl t0)), ((ad 60), .inl (cI, 30, .inl t1)), ((ad 61), .inl (cI, 30, .inl t2)), ((ad 62), .inl (cI, 30, .inl t3)), ((ad 63), .inl (cI, 30, .inl t4)), ((ad 64), .inl (cI, 30, .inl t5))] s.heap.size = A at hD ⊢
  have hA : ∀ q : Nat, s.heap.size ≤ q → A q := fun q h => by rw [← hAe]; exact Or.inr h
  have hS : va_S A s.heap s.heap [] := va_S.rf
  clear hAe
  obtain ⟨H, hH⟩ : ∃ H : Heap, H = s.heap := ⟨_, rfl⟩
  obtain ⟨locs, hlocs⟩ : ∃ L : List Loc, L = [] := ⟨_, rfl⟩
  replace hP : va_P D classes [(a0, .inr (12, MF ad 0 v3 0 (-1) v6 v7 v8 v9 vN 0 v36 v37 v38 v39 v40 v41 0 0 0 0 0)), ((ad 59), .inl (cI, 30, .inl t0)), ((ad 60), .inl (cI, 30, .inl t1)), ((ad 61), .inl (cI, 30, .inl t2)), ((ad 62), .inl (cI, 30, .inl t3)), ((ad 63), .inl (cI, 30, .inl t4)), ((ad 64), .inl (cI, 30, .inl t5))] H := by rw [hH]; exact hP
  replace hS : va_S A s.heap H locs := by rw [hH, hlocs]; exact hS
  rw [← hH, ← hlocs]
  clear hlocs hH
  have hl := lv_entry ([.ref a0, .int x, .int y, .int z]) (n := 4) (Nat.le_of_ble_eq_true rfl)
  rw [lg_entry_eq]
  generalize (lg_sl ([.ref a0, .int x, .int y, .int z]) ++ List.replicate (4 - (lg_sl ([.ref a0, .int x, .int y, .int z])).length) Slot.unset).toArray = ls at hl ⊢
  replace hl : lv_has ls 4 [(0, .ref a0), (1, .int x), (2, .int y), (3, .int z)] := hl
  refine lv_iload_n hx hb dX12_heard_0 rfl (lv_at hl 2 rfl) ?_
  refine lv_iconst (v := 0) hx hb dX12_heard_1 (by decide) ?_
  refine lv_bipush (v := 9) hx hb dX12_heard_2 (by decide) ?_
  have hPc := hP.sub (ws' := []) [] rfl
  refine vp_callSi (va_runS (As := [.int y, .int 0, .int 9]) (rest := []) ⟨hx, hb, hml, hown, hts⟩ (m_isIn l D cI cB cL cZ y 0 9) (va_cwS 3 hts gX12_heard_X12_isIn rfl rfl rfl (by decide +kernel) ⟨Nat.le_of_ble_eq_true rfl, Nat.le_of_ble_eq_true rfl⟩) ⟨xr_blind, fun U hU hW => xr_mk hU hW hPc hK⟩ rfl rfl hl.1 rfl (lv_room (Nat.le_of_ble_eq_true rfl)) dX12_heard_4 ⟨Nat.le_of_ble_eq_true rfl, Nat.le_of_ble_eq_true rfl⟩).run (fun r_1 hr_1 => ?_)
  clear hPc
  rcases hr_1 with ⟨rfl, hr_1_0, hr_1_1⟩ | ⟨rfl, hr_1_0⟩ | ⟨rfl, hr_1_0, hr_1_1⟩
  · refine lv_if_eq (tgt := 21) hx hb dX12_heard_7 (by decide) (fun c_2 => absurd c_2 (by decide)) (fun _ => ?_)
    refine lv_aload_n hx hb dX12_heard_10 rfl (lv_at hl 0 rfl) ?_
    refine lv_iload_n hx hb dX12_heard_11 rfl (lv_at hl 1 rfl) ?_
    refine lv_iload_n hx hb dX12_heard_12 rfl (lv_at hl 2 rfl) ?_
    refine lv_iconst (v := (-1)) hx hb dX12_heard_13 (by decide) ?_
    refine lv_iload_n hx hb dX12_heard_14 rfl (lv_at hl 3 rfl) ?_
    have hPc := hP.sub (ws' := [(a0, .inr (12, MF ad 0 v3 0 (-1) v6 v7 v8 v9 vN 0 v36 v37 v38 v39 v40 v41 0 0 0 0 0)), ((ad 59), .inl (cI, 30, .inl t0)), ((ad 60), .inl (cI, 30, .inl t1)), ((ad 61), .inl (cI, 30, .inl t2)), ((ad 62), .inl (cI, 30, .inl t3)), ((ad 63), .inl (cI, 30, .inl t4)), ((ad 64), .inl (cI, 30, .inl t5))]) [0, 1, 2, 3, 4, 5, 6] rfl
    have hDc := hD.sub (ws' := [(a0, .inr (12, MF ad 0 v3 0 (-1) v6 v7 v8 v9 vN 0 v36 v37 v38 v39 v40 v41 0 0 0 0 0)), ((ad 59), .inl (cI, 30, .inl t0)), ((ad 60), .inl (cI, 30, .inl t1)), ((ad 61), .inl (cI, 30, .inl t2)), ((ad 62), .inl (cI, 30, .inl t3)), ((ad 63), .inl (cI, 30, .inl t4)), ((ad 64), .inl (cI, 30, .inl t5))]) [0, 1, 2, 3, 4, 5, 6] (by decide) rfl
    have hFc := va_free (wc := [(a0, .inr (12, MF ad 0 v3 0 (-1) v6 v7 v8 v9 vN 0 v36 v37 v38 v39 v40 v41 0 0 0 0 0)), ((ad 59), .inl (cI, 30, .inl t0)), ((ad 60), .inl (cI, 30, .inl t1)), ((ad 61), .inl (cI, 30, .inl t2)), ((ad 62), .inl (cI, 30, .inl t3)), ((ad 63), .inl (cI, 30, .inl t4)), ((ad 64), .inl (cI, 30, .inl t5))]) hD hS hA [0, 1, 2, 3, 4, 5, 6] rfl
    refine va_calli (va_runV (As := [.int x, .int y, .int (-1), .int z]) (rest := []) ⟨hx, hb, hml, hown, hts⟩ (m_told l D cI cB cL cZ a0 ad v3 v6 v7 v8 v9 v36 v37 v38 v39 v40 v41 vN t0 t1 t2 t3 t4 t5 x y ((-1)) z H.size) (cwV 4 hts gX12_heard_X12_told rfl rfl rfl (by decide +kernel) ⟨Nat.le_of_ble_eq_true rfl, Nat.le_of_ble_eq_true rfl⟩) ⟨xp_blind, va_recv hK hPc (ci := 12) (q0 := 0) rfl rfl, fun U hU hW => xp_mk hU hW hPc hK hDc xNw_nil⟩ rfl rfl hl.1 rfl (lv_room (Nat.le_of_ble_eq_true rfl)) dX12_heard_15 ⟨Nat.le_of_ble_eq_true rfl, Nat.le_of_ble_eq_true rfl⟩) hS (fun q _ h => hFc q h) hFc (fun r_3 u9 t9 H1 locs ht9 hvm9 hr_3 hB9 hz9 hk9 hS => ?_)
    clear hB9 hz9 hPc hDc
    obtain ⟨hP, hD⟩ := va_join (wr := []) (w1 := []) hP hD [0, 1, 2, 3, 4, 5, 6] [] rfl rfl (by decide) (by decide) hk9 hFc (fun k q h => by simp at h) ⟨fun i j p q h => by simp at h, fun k q h => by simp at h⟩
    clear hk9 hFc ht9 hvm9
    generalize H1 = H at hP hS ⊢
    replace hP : va_P D classes [] H := hP
    replace hD : va_D A [] := hD
    subst hr_3
    refine lv_goto (tgt := 22) hx hb dX12_heard_18 (by decide) ?_
    refine W.widen (k := 0) (n := 0) (Nat.le_of_ble_eq_true rfl) (Nat.le_of_ble_eq_true rfl) ?_
    exact W.iret (v := sp_rng 7 x) hx hb hr (fun t ht hW => ⟨⟨sp_rng 7 x, (), rfl, (sp_heard_in hr_1_0 hr_1_1).symm, trivial⟩, hS.F ht⟩) hS.2.2 dX12_heard_22
  · refine lv_if_eq (tgt := 21) hx hb dX12_heard_7 (by decide) (fun _ => ?_) (fun c_4 => absurd (by decide) c_4)
    refine lv_iconst (v := (-1)) hx hb dX12_heard_21 (by decide) ?_
    refine W.widen (k := 0) (n := 0) (Nat.le_of_ble_eq_true rfl) (Nat.le_of_ble_eq_true rfl) ?_
    exact W.iret (v := (-1)) hx hb hr (fun t ht hW => ⟨⟨(-1), (), rfl, (sp_heard_lt hr_1_0).symm, trivial⟩, hS.F ht⟩) hS.2.2 dX12_heard_22
  · refine lv_if_eq (tgt := 21) hx hb dX12_heard_7 (by decide) (fun _ => ?_) (fun c_5 => absurd (by decide) c_5)
    refine lv_iconst (v := (-1)) hx hb dX12_heard_21 (by decide) ?_
    refine W.widen (k := 0) (n := 0) (Nat.le_of_ble_eq_true rfl) (Nat.le_of_ble_eq_true rfl) ?_
    exact W.iret (v := (-1)) hx hb hr (fun t ht hW => ⟨⟨(-1), (), rfl, (sp_heard_gt hr_1_0 hr_1_1).symm, trivial⟩, hS.F ht⟩) hS.2.2 dX12_heard_22
set_option maxHeartbeats 4000000 in
set_option maxRecDepth 100000 in
theorem m_trades (l : Launch) (D : va_G) (cI : ClassId) (cB : ClassId) (cL : ClassId) (cZ : ClassId) (a0 : Nat) (ad : Nat → Nat) (v3 : Int32) (v6 : Int32) (v7 : Int32) (v8 : Int32) (v9 : Int32) (v36 : Int32) (v37 : Int32) (v38 : Int32) (v39 : Int32) (v40 : Int32) (v41 : Int32) (vN : Int64) (fk : Nat → Int32) (fT : Nat → Int32) (sz : Nat) (hf_fk_U : ∀ j, fk j ≤ 0) (hf_fT_0 : fT 0 = 0) : Met l yX12_trades wsX12_trades ({ frames := 1, cells := 0, slots := 0, locals := 20 }) (xp D [(cI, .int), (cB, .byte), (cL, .long), (cZ, .boolean)] [(a0, .inr (12, MF ad 0 v3 0 (-1) v6 v7 v8 v9 vN 0 v36 v37 v38 v39 v40 v41 0 0 0 0 0)), ((ad 57), .inl (cI, 64, .inl fk)), ((ad 13), .inl (cI, 2, .inl fT))] sz [] [.ref a0]) (va_Qi (fun (r : Int32) (_ : Unit) => r = 0) (fun (_ : Unit) (_ : State) => True) (va_A [(a0, .inr (12, MF ad 0 v3 0 (-1) v6 v7 v8 v9 vN 0 v36 v37 v38 v39 v40 v41 0 0 0 0 0)), ((ad 57), .inl (cI, 64, .inl fk)), ((ad 13), .inl (cI, 2, .inl fT))] sz)) 0 0 (va_A [(a0, .inr (12, MF ad 0 v3 0 (-1) v6 v7 v8 v9 vN 0 v36 v37 v38 v39 v40 v41 0 0 0 0 0)), ((ad 57), .inl (cI, 64, .inl fk)), ((ad 13), .inl (cI, 2, .inl fT))] sz) := by
  refine Met.ofW (cc := cX12_trades) (maxL := 5) (ret := (some .int)) (by decide) rfl ?_
  intro p e s m args below meth c s₁ B hml hv
  obtain ⟨rfl, hsz, hP, hK, hD0, hNw⟩ := hv
  have hx := B.exec
  have hb := B.bytes
  have hr := B.returns
  have hts := atoms_spec (ws := wsX12_trades) B.pre
  have hown : s.vm.findClass RX12 = some m.cls := findClass_of_methodNamed B.named
  have hlocks := B.notSynchronized
  subst hsz
  have hD := hD0.self (sz := s.heap.size)
  clear hD0
  generalize hAe : va_A [(a0, .inr (12, MF ad 0 v3 0 (-1) v6 v7 v8 v9 vN 0 v36 v37 v38 v39 v40 v41 0 0 0 0 0)), ((ad 57), .inl (cI, 64, .inl fk)), ((ad 13), .inl (cI, 2, .inl fT))] s.heap.size = A at hD ⊢
  have hA : ∀ q : Nat, s.heap.size ≤ q → A q := fun q h => by rw [← hAe]; exact Or.inr h
  have hS : va_S A s.heap s.heap [] := va_S.rf
  clear hAe
  obtain ⟨H, hH⟩ : ∃ H : Heap, H = s.heap := ⟨_, rfl⟩
  obtain ⟨locs, hlocs⟩ : ∃ L : List Loc, L = [] := ⟨_, rfl⟩
  replace hP : va_P D classes [(a0, .inr (12, MF ad 0 v3 0 (-1) v6 v7 v8 v9 vN 0 v36 v37 v38 v39 v40 v41 0 0 0 0 0)), ((ad 57), .inl (cI, 64, .inl fk)), ((ad 13), .inl (cI, 2, .inl fT))] H := by rw [hH]; exact hP
  replace hS : va_S A s.heap H locs := by rw [hH, hlocs]; exact hS
  rw [← hH, ← hlocs]
  clear hlocs hH
  have hl := lv_entry ([.ref a0]) (n := 5) (Nat.le_of_ble_eq_true rfl)
  rw [lg_entry_eq]
  generalize (lg_sl ([.ref a0]) ++ List.replicate (5 - (lg_sl ([.ref a0])).length) Slot.unset).toArray = ls at hl ⊢
  replace hl : lv_has ls 5 [(0, .ref a0)] := hl
  refine lv_iconst (v := 0) hx hb dX12_trades_0 (by decide) ?_
  refine lv_istore_n (lv' := [(1, .int 0), (0, .ref a0)]) hx hb dX12_trades_1 rfl hl (by decide) rfl (fun ls hl => ?_)
  obtain ⟨i2, hi2⟩ : ∃ i : Nat, i = 0 := ⟨0, rfl⟩
  replace hl : lv_has ls 5 [(1, .int (nI i2)), (0, .ref a0)] := by
    rw [hi2]; exact hl
  obtain ⟨g_1, eg_1⟩ : ∃ g : Nat → Int32, g = fk := ⟨_, rfl⟩
  have g_1_U : ∀ j, g_1 j ≤ 0 := by rw [eg_1]; exact hf_fk_U
  rw [← eg_1] at hP hD
  clear eg_1
  have hle_i2 : i2 ≤ 64 := by omega
  obtain ⟨n2, hnn2⟩ : ∃ n : Nat, 64 + 1 ≤ i2 + n := ⟨64 + 1, by omega⟩
  clear hi2
  induction n2 generalizing i2 H locs ls g_1 with
  | zero => omega
  | succ n2 ih2 =>
    refine lv_iload_n hx hb dX12_trades_2 rfl (lv_at hl 0 rfl) ?_
    refine lv_bipush (v := 64) hx hb dX12_trades_3 (by decide) ?_
    refine lv_icmp_ge (tgt := 29) hx hb dX12_trades_5 (by decide) (fun c_2 => ?_) (fun c_2 => ?_)
    · refine lv_iconst (v := 0) hx hb dX12_trades_29 (by decide) ?_
      refine lv_istore_n (lv' := [(1, .int 0), (0, .ref a0)]) hx hb dX12_trades_30 rfl hl (by decide) rfl (fun ls hl => ?_)
      refine lv_iload_n hx hb dX12_trades_31 rfl (lv_at hl 0 rfl) ?_
      refine lv_aload_n hx hb dX12_trades_32 rfl (lv_at hl 1 rfl) ?_
      have hPc := hP.sub (ws' := [(a0, .inr (12, MF ad 0 v3 0 (-1) v6 v7 v8 v9 vN 0 v36 v37 v38 v39 v40 v41 0 0 0 0 0)), ((ad 13), .inl (cI, 2, .inl fT))]) [0, 2] rfl
      refine vp_callSi (va_runV (As := []) (rest := [.int 0]) ⟨hx, hb, hml, hown, hts⟩ (m_many l D cI cB cL cZ a0 ad v3 v6 v7 v8 v9 v36 v37 v38 v39 v40 v41 vN fT hf_fT_0) (cwV 0 hts gX12_trades_X12_many rfl rfl rfl (by decide +kernel) ⟨Nat.le_of_ble_eq_true rfl, Nat.le_of_ble_eq_true rfl⟩) ⟨xr_blind, va_recv hK hPc (ci := 12) (q0 := 0) rfl rfl, fun U hU hW => xr_mk hU hW hPc hK⟩ rfl rfl hl.1 rfl (lv_room (Nat.le_of_ble_eq_true rfl)) dX12_trades_33 ⟨Nat.le_of_ble_eq_true rfl, Nat.le_of_ble_eq_true rfl⟩).run (fun r_3 hr_3 => ?_)
      clear hPc
      subst hr_3
      refine lv_icmp_ge (tgt := 137) hx hb dX12_trades_36 (by decide) (fun _ => ?_) (fun c_4 => absurd (by decide) c_4)
      refine lv_iconst (v := 0) hx hb dX12_trades_137 (by decide) ?_
      refine lv_istore_n (lv' := [(1, .int 0), (0, .ref a0)]) hx hb dX12_trades_138 rfl hl (by decide) rfl (fun ls hl => ?_)
      refine lv_iconst (v := 0) hx hb dX12_trades_139 (by decide) ?_
      refine lv_istore_n (lv' := [(2, .int 0), (1, .int 0), (0, .ref a0)]) hx hb dX12_trades_140 rfl hl (by decide) rfl (fun ls hl => ?_)
      obtain ⟨i141, hi141⟩ : ∃ i : Nat, i = 0 := ⟨0, rfl⟩
      replace hl : lv_has ls 5 [(2, .int (nI i141)), (1, .int 0), (0, .ref a0)] := by
        rw [hi141]; exact hl
      have hle_i141 : i141 ≤ 64 := by omega
      obtain ⟨n141, hnn141⟩ : ∃ n : Nat, 64 + 1 ≤ i141 + n := ⟨64 + 1, by omega⟩
      clear hi141
      induction n141 generalizing i141 H locs ls with
      | zero => omega
      | succ n141 ih141 =>
        refine lv_iload_n hx hb dX12_trades_141 rfl (lv_at hl 0 rfl) ?_
        refine lv_bipush (v := 64) hx hb dX12_trades_142 (by decide) ?_
        refine lv_icmp_ge (tgt := 170) hx hb dX12_trades_144 (by decide) (fun c_5 => ?_) (fun c_5 => ?_)
        · refine lv_iload_n hx hb dX12_trades_170 rfl (lv_at hl 1 rfl) ?_
          refine W.widen (k := 0) (n := 0) (Nat.le_of_ble_eq_true rfl) (Nat.le_of_ble_eq_true rfl) ?_
          exact W.iret (v := 0) hx hb hr (fun t ht hW => ⟨⟨0, (), rfl, rfl, trivial⟩, hS.F ht⟩) hS.2.2 dX12_trades_171
        · have hlt_i141 : i141 < 64 := by
            rcases Nat.lt_or_ge i141 64 with q | q
            · exact q
            · exact absurd (nI_le q (by omega)) c_5
          refine lv_aload_n hx hb dX12_trades_147 rfl (lv_at hl 2 rfl) ?_
          refine va_get (D := D) (ci := 12) (v := .ref (ad 57)) (C := RX12) (T := TX12) (N := 71) hx hb hts iw_X12_trades_X12 hown hK hP 0 rfl rfl 57 (by decide) (hts (.fieldLink RX12 131 "SoldHouseModel" "taken" "[I") (List.mem_of_getElem? (i := 1) rfl)) (fun _ h9 => h9) rfl dX12_trades_148 ?_
          refine lv_iload_n hx hb dX12_trades_151 rfl (lv_at hl 0 rfl) ?_
          refine va_iald hx hb hK hP 1 0 rfl rfl (vp_in_nI (by omega) (by decide)) dX12_trades_152 ?_
          refine lv_topi (fun y_6 ey_6 => ?_)
          have uy_6 : ¬ 0 < y_6 := by rw [ey_6]; exact Int32.not_lt.mpr (g_1_U _)
          clear ey_6
          refine lv_iload_n hx hb dX12_trades_153 rfl (lv_at hl 1 rfl) ?_
          refine lv_icmp_le (tgt := 164) hx hb dX12_trades_154 (by decide) (fun c_7 => ?_) (fun c_7 => ?_)
          · refine lv_iinc (v := nI (i141 + 1)) (lv' := [(2, .int (nI (i141 + 1))), (1, .int 0), (0, .ref a0)]) hx hb dX12_trades_164 hl (k := 0) rfl (nI_1 i141) (by decide) rfl (fun ls hl => ?_)
            refine lv_goto (tgt := 141) hx hb dX12_trades_167 (by decide) ?_
            replace hl : lv_has ls 5 [(2, .int (nI (i141 + 1))), (1, .int 0), (0, .ref a0)] := lv_sub hl [0, 1, 2] rfl
            apply ih141 (i141 := (i141 + 1)) (H := H) (locs := locs) (ls := ls) <;> first | assumption | omega
          · exact (zz_ab3 (Int32.not_le.mp c_7) uy_6 (by decide)).elim
    · have hlt_i2 : i2 < 64 := by
        rcases Nat.lt_or_ge i2 64 with q | q
        · exact q
        · exact absurd (nI_le q (by omega)) c_2
      refine lv_aload_n hx hb dX12_trades_8 rfl (lv_at hl 1 rfl) ?_
      refine va_get (D := D) (ci := 12) (v := .ref (ad 57)) (C := RX12) (T := TX12) (N := 71) hx hb hts iw_X12_trades_X12 hown hK hP 0 rfl rfl 57 (by decide) (hts (.fieldLink RX12 131 "SoldHouseModel" "taken" "[I") (List.mem_of_getElem? (i := 1) rfl)) (fun _ h9 => h9) rfl dX12_trades_9 ?_
      refine lv_iload_n hx hb dX12_trades_12 rfl (lv_at hl 0 rfl) ?_
      refine lv_iload_n hx hb dX12_trades_13 rfl (lv_at hl 0 rfl) ?_
      refine lv_if_ne (tgt := 21) hx hb dX12_trades_14 (by decide) (fun c_8 => ?_) (fun c_8 => ?_)
      · refine lv_iconst (v := (-1)) hx hb dX12_trades_21 (by decide) ?_
        refine va_iast hx hb hK hP hD hS 1 0 rfl rfl (vp_in_nI (by omega) (by decide)) dX12_trades_22 (fun H locs hP hD hS => ?_)
        replace hP : va_P D classes [(a0, .inr (12, MF ad 0 v3 0 (-1) v6 v7 v8 v9 vN 0 v36 v37 v38 v39 v40 v41 0 0 0 0 0)), ((ad 57), .inl (cI, 64, .inl (upd g_1 (Int32.toNatClampNeg (nI i2)) (-1)))), ((ad 13), .inl (cI, 2, .inl fT))] H := hP
        replace hD : va_D A [(a0, .inr (12, MF ad 0 v3 0 (-1) v6 v7 v8 v9 vN 0 v36 v37 v38 v39 v40 v41 0 0 0 0 0)), ((ad 57), .inl (cI, 64, .inl (upd g_1 (Int32.toNatClampNeg (nI i2)) (-1)))), ((ad 13), .inl (cI, 2, .inl fT))] := hD
        generalize eg_9 : upd g_1 (Int32.toNatClampNeg (nI i2)) (-1) = g_9 at hP hD
        have g_9_U : ∀ j, g_9 j ≤ 0 := by rw [← eg_9]; exact zz_updU g_1_U (by decide)
        clear eg_9
        refine lv_iinc (v := nI (i2 + 1)) (lv' := [(1, .int (nI (i2 + 1))), (0, .ref a0)]) hx hb dX12_trades_23 hl (k := 0) rfl (nI_1 i2) (by decide) rfl (fun ls hl => ?_)
        refine lv_goto (tgt := 2) hx hb dX12_trades_26 (by decide) ?_
        replace hl : lv_has ls 5 [(1, .int (nI (i2 + 1))), (0, .ref a0)] := lv_sub hl [0, 1] rfl
        apply ih2 (i2 := (i2 + 1)) (H := H) (locs := locs) (ls := ls) (g_1 := (g_9)) <;> first | assumption | omega
      · refine lv_iconst (v := 0) hx hb dX12_trades_17 (by decide) ?_
        refine lv_goto (tgt := 22) hx hb dX12_trades_18 (by decide) ?_
        refine va_iast hx hb hK hP hD hS 1 0 rfl rfl (vp_in_nI (by omega) (by decide)) dX12_trades_22 (fun H locs hP hD hS => ?_)
        replace hP : va_P D classes [(a0, .inr (12, MF ad 0 v3 0 (-1) v6 v7 v8 v9 vN 0 v36 v37 v38 v39 v40 v41 0 0 0 0 0)), ((ad 57), .inl (cI, 64, .inl (upd g_1 (Int32.toNatClampNeg (nI i2)) 0))), ((ad 13), .inl (cI, 2, .inl fT))] H := hP
        replace hD : va_D A [(a0, .inr (12, MF ad 0 v3 0 (-1) v6 v7 v8 v9 vN 0 v36 v37 v38 v39 v40 v41 0 0 0 0 0)), ((ad 57), .inl (cI, 64, .inl (upd g_1 (Int32.toNatClampNeg (nI i2)) 0))), ((ad 13), .inl (cI, 2, .inl fT))] := hD
        generalize eg_10 : upd g_1 (Int32.toNatClampNeg (nI i2)) 0 = g_10 at hP hD
        have g_10_U : ∀ j, g_10 j ≤ 0 := by rw [← eg_10]; exact zz_updU g_1_U (by decide)
        clear eg_10
        refine lv_iinc (v := nI (i2 + 1)) (lv' := [(1, .int (nI (i2 + 1))), (0, .ref a0)]) hx hb dX12_trades_23 hl (k := 0) rfl (nI_1 i2) (by decide) rfl (fun ls hl => ?_)
        refine lv_goto (tgt := 2) hx hb dX12_trades_26 (by decide) ?_
        replace hl : lv_has ls 5 [(1, .int (nI (i2 + 1))), (0, .ref a0)] := lv_sub hl [0, 1] rfl
        apply ih2 (i2 := (i2 + 1)) (H := H) (locs := locs) (ls := ls) (g_1 := (g_10)) <;> first | assumption | omega
set_option maxHeartbeats 4000000 in
set_option maxRecDepth 100000 in
theorem m_keepAct (l : Launch) (D : va_G) (cI : ClassId) (cB : ClassId) (cL : ClassId) (cZ : ClassId) (a0 : Nat) (ad : Nat → Nat) (v3 : Int32) (v6 : Int32) (v7 : Int32) (v8 : Int32) (v9 : Int32) (v36 : Int32) (v37 : Int32) (v38 : Int32) (v39 : Int32) (v40 : Int32) (v41 : Int32) (vN : Int64) (fA : Nat → Int32) (fw : Nat → Int32) (sz : Nat) : Met l yX12_keepAct wsX12_keepAct ({ frames := 0, cells := 0, slots := 0, locals := 0 }) (xp D [(cI, .int), (cB, .byte), (cL, .long), (cZ, .boolean)] [(a0, .inr (12, MF ad 0 v3 0 (-1) v6 v7 v8 v9 vN 0 v36 v37 v38 v39 v40 v41 0 0 0 0 0)), ((ad 42), .inl (cI, 32, .inl fA)), ((ad 45), .inl (cI, 1312, .inl fw))] sz [] [.ref a0]) (va_Qv (fun _ : Unit => True) (fun (_ : Unit) (t : State) => ∃ (g : Nat → Int32), xB D (va_A [(a0, .inr (12, MF ad 0 v3 0 (-1) v6 v7 v8 v9 vN 0 v36 v37 v38 v39 v40 v41 0 0 0 0 0)), ((ad 42), .inl (cI, 32, .inl fA)), ((ad 45), .inl (cI, 1312, .inl fw))] sz) [(a0, .inr (12, MF ad 0 v3 0 (-1) v6 v7 v8 v9 vN 0 v36 v37 v38 v39 v40 v41 1 0 0 0 0)), ((ad 42), .inl (cI, 32, .inl fA)), ((ad 45), .inl (cI, 1312, .inl g))] t) (va_A [(a0, .inr (12, MF ad 0 v3 0 (-1) v6 v7 v8 v9 vN 0 v36 v37 v38 v39 v40 v41 0 0 0 0 0)), ((ad 42), .inl (cI, 32, .inl fA)), ((ad 45), .inl (cI, 1312, .inl fw))] sz)) 0 0 (va_A [(a0, .inr (12, MF ad 0 v3 0 (-1) v6 v7 v8 v9 vN 0 v36 v37 v38 v39 v40 v41 0 0 0 0 0)), ((ad 42), .inl (cI, 32, .inl fA)), ((ad 45), .inl (cI, 1312, .inl fw))] sz) := by
  refine Met.ofW (cc := cX12_keepAct) (maxL := 2) (ret := none) (by decide) rfl ?_
  intro p e s m args below meth c s₁ B hml hv
  obtain ⟨rfl, hsz, hP, hK, hD0, hNw⟩ := hv
  have hx := B.exec
  have hb := B.bytes
  have hr := B.returns
  have hts := atoms_spec (ws := wsX12_keepAct) B.pre
  have hown : s.vm.findClass RX12 = some m.cls := findClass_of_methodNamed B.named
  have hlocks := B.notSynchronized
  subst hsz
  have hD := hD0.self (sz := s.heap.size)
  clear hD0
  generalize hAe : va_A [(a0, .inr (12, MF ad 0 v3 0 (-1) v6 v7 v8 v9 vN 0 v36 v37 v38 v39 v40 v41 0 0 0 0 0)), ((ad 42), .inl (cI, 32, .inl fA)), ((ad 45), .inl (cI, 1312, .inl fw))] s.heap.size = A at hD ⊢
  have hA : ∀ q : Nat, s.heap.size ≤ q → A q := fun q h => by rw [← hAe]; exact Or.inr h
  have hS : va_S A s.heap s.heap [] := va_S.rf
  clear hAe
  obtain ⟨H, hH⟩ : ∃ H : Heap, H = s.heap := ⟨_, rfl⟩
  obtain ⟨locs, hlocs⟩ : ∃ L : List Loc, L = [] := ⟨_, rfl⟩
  replace hP : va_P D classes [(a0, .inr (12, MF ad 0 v3 0 (-1) v6 v7 v8 v9 vN 0 v36 v37 v38 v39 v40 v41 0 0 0 0 0)), ((ad 42), .inl (cI, 32, .inl fA)), ((ad 45), .inl (cI, 1312, .inl fw))] H := by rw [hH]; exact hP
  replace hS : va_S A s.heap H locs := by rw [hH, hlocs]; exact hS
  rw [← hH, ← hlocs]
  clear hlocs hH
  have hl := lv_entry ([.ref a0]) (n := 2) (Nat.le_of_ble_eq_true rfl)
  rw [lg_entry_eq]
  generalize (lg_sl ([.ref a0]) ++ List.replicate (2 - (lg_sl ([.ref a0])).length) Slot.unset).toArray = ls at hl ⊢
  replace hl : lv_has ls 2 [(0, .ref a0)] := hl
  refine lv_aload_n hx hb dX12_keepAct_0 rfl (lv_at hl 0 rfl) ?_
  refine va_get (D := D) (ci := 12) (v := .int 0) (C := RX12) (T := TX12) (N := 71) hx hb hts iw_X12_keepAct_X12 hown hK hP 0 rfl rfl 46 (by decide) (hts (.fieldLink RX12 409 "SoldHouseModel" "acts" "I") (List.mem_of_getElem? (i := 1) rfl)) (fun _ h9 => h9) rfl dX12_keepAct_1 ?_
  refine lv_bipush (v := 40) hx hb dX12_keepAct_4 (by decide) ?_
  refine lv_icmp_ne (tgt := 49) hx hb dX12_keepAct_6 (by decide) (fun _ => ?_) (fun c_1 => absurd c_1 (by decide))
  refine lv_iconst (v := 0) hx hb dX12_keepAct_49 (by decide) ?_
  refine lv_istore_n (lv' := [(1, .int 0), (0, .ref a0)]) hx hb dX12_keepAct_50 rfl hl (by decide) rfl (fun ls hl => ?_)
  obtain ⟨i51, hi51⟩ : ∃ i : Nat, i = 0 := ⟨0, rfl⟩
  replace hl : lv_has ls 2 [(1, .int (nI i51)), (0, .ref a0)] := by
    rw [hi51]; exact hl
  obtain ⟨g_2, eg_2⟩ : ∃ g : Nat → Int32, g = fw := ⟨_, rfl⟩
  rw [← eg_2] at hP hD
  clear eg_2
  have hle_i51 : i51 ≤ 32 := by omega
  obtain ⟨n51, hnn51⟩ : ∃ n : Nat, 32 + 1 ≤ i51 + n := ⟨32 + 1, by omega⟩
  clear hi51
  induction n51 generalizing i51 H locs ls g_2 with
  | zero => omega
  | succ n51 ih51 =>
    refine lv_iload_n hx hb dX12_keepAct_51 rfl (lv_at hl 0 rfl) ?_
    refine lv_bipush (v := 32) hx hb dX12_keepAct_52 (by decide) ?_
    refine lv_icmp_ge (tgt := 83) hx hb dX12_keepAct_54 (by decide) (fun c_3 => ?_) (fun c_3 => ?_)
    · refine lv_aload_n hx hb dX12_keepAct_83 rfl (lv_at hl 1 rfl) ?_
      refine lv_dup hx hb dX12_keepAct_84 rfl ?_
      refine va_get (D := D) (ci := 12) (v := .int 0) (C := RX12) (T := TX12) (N := 71) hx hb hts iw_X12_keepAct_X12 hown hK hP 0 rfl rfl 46 (by decide) (hts (.fieldLink RX12 409 "SoldHouseModel" "acts" "I") (List.mem_of_getElem? (i := 1) rfl)) (fun _ h9 => h9) rfl dX12_keepAct_85 ?_
      refine lv_iconst (v := 1) hx hb dX12_keepAct_88 (by decide) ?_
      refine lv_iadd hx hb dX12_keepAct_89 ?_
      refine lv_topi (fun y_4 ey_4 => ?_)
      obtain rfl : y_4 = 1 := ey_4.trans (by decide)
      refine va_put (D := D) (ci := 12) (v := .int 1) (ty := tyX12 46) (C := RX12) (T := TX12) (N := 71) hx hb hts iw_X12_keepAct_X12 tyX12 tyX12_ok nmX12 hown hK hP hD hS 0 rfl rfl 46 (by decide) (hts (.fieldLink RX12 409 "SoldHouseModel" "acts" "I") (List.mem_of_getElem? (i := 1) rfl)) (fun _ h9 => h9) rfl (by decide +kernel) rfl rfl (Nat.le_of_ble_eq_true rfl) dX12_keepAct_90 (fun H locs hP hD hS => ?_)
      replace hP : va_P D classes [(a0, .inr (12, MF ad 0 v3 0 (-1) v6 v7 v8 v9 vN 0 v36 v37 v38 v39 v40 v41 1 0 0 0 0)), ((ad 42), .inl (cI, 32, .inl fA)), ((ad 45), .inl (cI, 1312, .inl g_2))] H := hP
      replace hD : va_D A [(a0, .inr (12, MF ad 0 v3 0 (-1) v6 v7 v8 v9 vN 0 v36 v37 v38 v39 v40 v41 1 0 0 0 0)), ((ad 42), .inl (cI, 32, .inl fA)), ((ad 45), .inl (cI, 1312, .inl g_2))] := hD
      refine lv_aload_n hx hb dX12_keepAct_93 rfl (lv_at hl 1 rfl) ?_
      refine lv_iconst (v := 0) hx hb dX12_keepAct_94 (by decide) ?_
      refine va_put (D := D) (ci := 12) (v := .int 0) (ty := tyX12 47) (C := RX12) (T := TX12) (N := 71) hx hb hts iw_X12_keepAct_X12 tyX12 tyX12_ok nmX12 hown hK hP hD hS 0 rfl rfl 47 (by decide) (hts (.fieldLink RX12 412 "SoldHouseModel" "undone" "I") (List.mem_of_getElem? (i := 4) rfl)) (fun _ h9 => h9) rfl (by decide +kernel) rfl rfl (Nat.le_of_ble_eq_true rfl) dX12_keepAct_95 (fun H locs hP hD hS => ?_)
      replace hP : va_P D classes [(a0, .inr (12, MF ad 0 v3 0 (-1) v6 v7 v8 v9 vN 0 v36 v37 v38 v39 v40 v41 1 0 0 0 0)), ((ad 42), .inl (cI, 32, .inl fA)), ((ad 45), .inl (cI, 1312, .inl g_2))] H := hP
      replace hD : va_D A [(a0, .inr (12, MF ad 0 v3 0 (-1) v6 v7 v8 v9 vN 0 v36 v37 v38 v39 v40 v41 1 0 0 0 0)), ((ad 42), .inl (cI, 32, .inl fA)), ((ad 45), .inl (cI, 1312, .inl g_2))] := hD
      have hP9 := hP.sub (ws' := [(a0, .inr (12, MF ad 0 v3 0 (-1) v6 v7 v8 v9 vN 0 v36 v37 v38 v39 v40 v41 1 0 0 0 0)), ((ad 42), .inl (cI, 32, .inl fA)), ((ad 45), .inl (cI, 1312, .inl g_2))]) [0, 1, 2] rfl
      have hD9 := hD.sub (ws' := [(a0, .inr (12, MF ad 0 v3 0 (-1) v6 v7 v8 v9 vN 0 v36 v37 v38 v39 v40 v41 1 0 0 0 0)), ((ad 42), .inl (cI, 32, .inl fA)), ((ad 45), .inl (cI, 1312, .inl g_2))]) [0, 1, 2] (by decide) rfl
      refine W.widen (k := 0) (n := 0) (Nat.le_of_ble_eq_true rfl) (Nat.le_of_ble_eq_true rfl) ?_
      exact W.vret hx hb hr (fun t ht hW => ⟨⟨(), rfl, trivial, ⟨g_2, by rw [ht]; exact hP9, hD9⟩⟩, hS.F ht⟩) hS.2.2 dX12_keepAct_98
    · have hlt_i51 : i51 < 32 := by
        rcases Nat.lt_or_ge i51 32 with q | q
        · exact q
        · exact absurd (nI_le q (by omega)) c_3
      refine lv_aload_n hx hb dX12_keepAct_57 rfl (lv_at hl 1 rfl) ?_
      refine va_get (D := D) (ci := 12) (v := .ref (ad 45)) (C := RX12) (T := TX12) (N := 71) hx hb hts iw_X12_keepAct_X12 hown hK hP 0 rfl rfl 45 (by decide) (hts (.fieldLink RX12 104 "SoldHouseModel" "was" "[I") (List.mem_of_getElem? (i := 2) rfl)) (fun _ h9 => h9) rfl dX12_keepAct_58 ?_
      refine lv_bipush (v := 32) hx hb dX12_keepAct_61 (by decide) ?_
      refine lv_aload_n hx hb dX12_keepAct_63 rfl (lv_at hl 1 rfl) ?_
      refine va_get (D := D) (ci := 12) (v := .int 0) (C := RX12) (T := TX12) (N := 71) hx hb hts iw_X12_keepAct_X12 hown hK hP 0 rfl rfl 46 (by decide) (hts (.fieldLink RX12 409 "SoldHouseModel" "acts" "I") (List.mem_of_getElem? (i := 1) rfl)) (fun _ h9 => h9) rfl dX12_keepAct_64 ?_
      refine lv_imul hx hb dX12_keepAct_67 ?_
      refine lv_topi (fun y_5 ey_5 => ?_)
      obtain rfl : y_5 = 0 := ey_5.trans (by decide)
      refine lv_iload_n hx hb dX12_keepAct_68 rfl (lv_at hl 0 rfl) ?_
      refine lv_iadd hx hb dX12_keepAct_69 ?_
      refine lv_topi (fun y_6 ey_6 => ?_)
      rw [Int32.zero_add] at ey_6
      replace ey_6 := ey_6.symm
      subst ey_6
      refine lv_aload_n hx hb dX12_keepAct_70 rfl (lv_at hl 1 rfl) ?_
      refine va_get (D := D) (ci := 12) (v := .ref (ad 42)) (C := RX12) (T := TX12) (N := 71) hx hb hts iw_X12_keepAct_X12 hown hK hP 0 rfl rfl 42 (by decide) (hts (.fieldLink RX12 95 "SoldHouseModel" "all" "[I") (List.mem_of_getElem? (i := 3) rfl)) (fun _ h9 => h9) rfl dX12_keepAct_71 ?_
      refine lv_iload_n hx hb dX12_keepAct_74 rfl (lv_at hl 0 rfl) ?_
      refine va_iald hx hb hK hP 1 0 rfl rfl (vp_in_nI (by omega) (by decide)) dX12_keepAct_75 ?_
      refine lv_topi (fun y_7 ey_7 => ?_)
      refine va_iast hx hb hK hP hD hS 2 0 rfl rfl (vp_in_nI (by omega) (by decide)) dX12_keepAct_76 (fun H locs hP hD hS => ?_)
      replace hP : va_P D classes [(a0, .inr (12, MF ad 0 v3 0 (-1) v6 v7 v8 v9 vN 0 v36 v37 v38 v39 v40 v41 0 0 0 0 0)), ((ad 42), .inl (cI, 32, .inl fA)), ((ad 45), .inl (cI, 1312, .inl (upd g_2 (Int32.toNatClampNeg (nI i51)) y_7)))] H := hP
      replace hD : va_D A [(a0, .inr (12, MF ad 0 v3 0 (-1) v6 v7 v8 v9 vN 0 v36 v37 v38 v39 v40 v41 0 0 0 0 0)), ((ad 42), .inl (cI, 32, .inl fA)), ((ad 45), .inl (cI, 1312, .inl (upd g_2 (Int32.toNatClampNeg (nI i51)) y_7)))] := hD
      generalize eg_8 : upd g_2 (Int32.toNatClampNeg (nI i51)) y_7 = g_8 at hP hD
      clear eg_8
      refine lv_iinc (v := nI (i51 + 1)) (lv' := [(1, .int (nI (i51 + 1))), (0, .ref a0)]) hx hb dX12_keepAct_77 hl (k := 0) rfl (nI_1 i51) (by decide) rfl (fun ls hl => ?_)
      refine lv_goto (tgt := 51) hx hb dX12_keepAct_80 (by decide) ?_
      replace hl : lv_has ls 2 [(1, .int (nI (i51 + 1))), (0, .ref a0)] := lv_sub hl [0, 1] rfl
      apply ih51 (i51 := (i51 + 1)) (H := H) (locs := locs) (ls := ls) (g_2 := (g_8)) <;> first | assumption | omega
set_option maxHeartbeats 4000000 in
set_option maxRecDepth 100000 in
theorem m_manyA (l : Launch) (D : va_G) (cI : ClassId) (cB : ClassId) (cL : ClassId) (cZ : ClassId) (a0 : Nat) (ad : Nat → Nat) (v3 : Int32) (v6 : Int32) (v7 : Int32) (v8 : Int32) (v9 : Int32) (v36 : Int32) (v37 : Int32) (v38 : Int32) (v39 : Int32) (v40 : Int32) (v41 : Int32) (vN : Int64) (fT : Nat → Int32) (hf_fT_0 : fT 0 = 0) : Met l yX12_many wsX12_many ({ frames := 0, cells := 0, slots := 0, locals := 0 }) (xr D [(cI, .int), (cB, .byte), (cL, .long), (cZ, .boolean)] [(a0, .inr (12, MF ad 0 v3 0 (-1) v6 v7 v8 v9 vN 0 v36 v37 v38 v39 v40 v41 1 0 0 0 0)), ((ad 13), .inl (cI, 2, .inl fT))] [.ref a0]) (vp_Si (fun r => r = 0)) 0 0 (fun _ => False) := by
  refine Met.ofW (cc := cX12_many) (maxL := 1) (ret := (some .int)) (by decide) rfl ?_
  intro p e s m args below meth c s₁ B hml hv
  obtain ⟨rfl, hP, hK⟩ := hv
  have hx := B.exec
  have hb := B.bytes
  have hr := B.returns
  have hts := atoms_spec (ws := wsX12_many) B.pre
  have hown : s.vm.findClass RX12 = some m.cls := findClass_of_methodNamed B.named
  have hlocks := B.notSynchronized
  have hl := lv_entry ([.ref a0]) (n := 1) (Nat.le_of_ble_eq_true rfl)
  rw [lg_entry_eq]
  generalize (lg_sl ([.ref a0]) ++ List.replicate (1 - (lg_sl ([.ref a0])).length) Slot.unset).toArray = ls at hl ⊢
  replace hl : lv_has ls 1 [(0, .ref a0)] := hl
  refine lv_aload_n hx hb dX12_many_0 rfl (lv_at hl 0 rfl) ?_
  refine va_get (D := D) (ci := 12) (v := .ref (ad 13)) (C := RX12) (T := TX12) (N := 71) hx hb hts iw_X12_many_X12 hown hK hP 0 rfl rfl 13 (by decide) (hts (.fieldLink RX12 27 "SoldHouseModel" "things" "[I") (List.mem_of_getElem? (i := 1) rfl)) (fun _ h9 => h9) rfl dX12_many_1 ?_
  refine lv_aload_n hx hb dX12_many_4 rfl (lv_at hl 0 rfl) ?_
  refine va_get (D := D) (ci := 12) (v := .int 0) (C := RX12) (T := TX12) (N := 71) hx hb hts iw_X12_many_X12 hown hK hP 0 rfl rfl 35 (by decide) (hts (.fieldLink RX12 280 "SoldHouseModel" "bank" "I") (List.mem_of_getElem? (i := 2) rfl)) (fun _ h9 => h9) rfl dX12_many_5 ?_
  refine va_iald hx hb hK hP 1 0 rfl rfl (show vp_in 0 2 from (by decide : ¬ ((0 : Int32) < 0 ∨ 2 ≤ Int32.toNatClampNeg 0))) dX12_many_8 ?_
  refine lv_topi (fun y_1 ey_1 => ?_)
  obtain rfl : y_1 = 0 := ey_1.trans hf_fT_0
  exact W.iret (v := 0) hx hb hr (fun t ht hW => ⟨0, rfl, rfl, ht⟩) (fun q hq => by cases hq) dX12_many_9
set_option maxHeartbeats 4000000 in
set_option maxRecDepth 100000 in
theorem m_goDay (l : Launch) (D : va_G) (cI : ClassId) (cB : ClassId) (cL : ClassId) (cZ : ClassId) (a0 : Nat) (ad : Nat → Nat) (v3 : Int32) (v6 : Int32) (v7 : Int32) (v8 : Int32) (v9 : Int32) (v36 : Int32) (v37 : Int32) (v38 : Int32) (v39 : Int32) (v40 : Int32) (v41 : Int32) (vN : Int64) (fA : Nat → Int32) (fT : Nat → Int32) (sz : Nat) (hf_fA_30 : fA 30 = 0) (hf_fT_0 : fT 0 = 0) : Met l yX12_goDay wsX12_goDay ({ frames := 1, cells := 0, slots := 0, locals := 20 }) (xp D [(cI, .int), (cB, .byte), (cL, .long), (cZ, .boolean)] [(a0, .inr (12, MF ad 0 v3 0 (-1) v6 v7 v8 v9 vN 0 v36 v37 v38 v39 v40 v41 1 0 0 0 0)), ((ad 42), .inl (cI, 32, .inl fA)), ((ad 13), .inl (cI, 2, .inl fT))] sz [] [.ref a0]) (va_Qi (fun (r : Int32) (_ : Unit) => r = 0) (fun (_ : Unit) (_ : State) => True) (va_A [(a0, .inr (12, MF ad 0 v3 0 (-1) v6 v7 v8 v9 vN 0 v36 v37 v38 v39 v40 v41 1 0 0 0 0)), ((ad 42), .inl (cI, 32, .inl fA)), ((ad 13), .inl (cI, 2, .inl fT))] sz)) 0 0 (va_A [(a0, .inr (12, MF ad 0 v3 0 (-1) v6 v7 v8 v9 vN 0 v36 v37 v38 v39 v40 v41 1 0 0 0 0)), ((ad 42), .inl (cI, 32, .inl fA)), ((ad 13), .inl (cI, 2, .inl fT))] sz) := by
  refine Met.ofW (cc := cX12_goDay) (maxL := 3) (ret := (some .int)) (by decide) rfl ?_
  intro p e s m args below meth c s₁ B hml hv
  obtain ⟨rfl, hsz, hP, hK, hD0, hNw⟩ := hv
  have hx := B.exec
  have hb := B.bytes
  have hr := B.returns
  have hts := atoms_spec (ws := wsX12_goDay) B.pre
  have hown : s.vm.findClass RX12 = some m.cls := findClass_of_methodNamed B.named
  have hlocks := B.notSynchronized
  subst hsz
  have hD := hD0.self (sz := s.heap.size)
  clear hD0
  generalize hAe : va_A [(a0, .inr (12, MF ad 0 v3 0 (-1) v6 v7 v8 v9 vN 0 v36 v37 v38 v39 v40 v41 1 0 0 0 0)), ((ad 42), .inl (cI, 32, .inl fA)), ((ad 13), .inl (cI, 2, .inl fT))] s.heap.size = A at hD ⊢
  have hA : ∀ q : Nat, s.heap.size ≤ q → A q := fun q h => by rw [← hAe]; exact Or.inr h
  have hS : va_S A s.heap s.heap [] := va_S.rf
  clear hAe
  obtain ⟨H, hH⟩ : ∃ H : Heap, H = s.heap := ⟨_, rfl⟩
  obtain ⟨locs, hlocs⟩ : ∃ L : List Loc, L = [] := ⟨_, rfl⟩
  replace hP : va_P D classes [(a0, .inr (12, MF ad 0 v3 0 (-1) v6 v7 v8 v9 vN 0 v36 v37 v38 v39 v40 v41 1 0 0 0 0)), ((ad 42), .inl (cI, 32, .inl fA)), ((ad 13), .inl (cI, 2, .inl fT))] H := by rw [hH]; exact hP
  replace hS : va_S A s.heap H locs := by rw [hH, hlocs]; exact hS
  rw [← hH, ← hlocs]
  clear hlocs hH
  have hl := lv_entry ([.ref a0]) (n := 3) (Nat.le_of_ble_eq_true rfl)
  rw [lg_entry_eq]
  generalize (lg_sl ([.ref a0]) ++ List.replicate (3 - (lg_sl ([.ref a0])).length) Slot.unset).toArray = ls at hl ⊢
  replace hl : lv_has ls 3 [(0, .ref a0)] := hl
  refine lv_iconst (v := 0) hx hb dX12_goDay_0 (by decide) ?_
  refine lv_istore_n (lv' := [(1, .int 0), (0, .ref a0)]) hx hb dX12_goDay_1 rfl hl (by decide) rfl (fun ls hl => ?_)
  refine lv_iconst (v := 0) hx hb dX12_goDay_2 (by decide) ?_
  refine lv_istore_n (lv' := [(2, .int 0), (1, .int 0), (0, .ref a0)]) hx hb dX12_goDay_3 rfl hl (by decide) rfl (fun ls hl => ?_)
  refine lv_iload_n hx hb dX12_goDay_4 rfl (lv_at hl 0 rfl) ?_
  refine lv_aload_n hx hb dX12_goDay_5 rfl (lv_at hl 2 rfl) ?_
  have hPc := hP.sub (ws' := [(a0, .inr (12, MF ad 0 v3 0 (-1) v6 v7 v8 v9 vN 0 v36 v37 v38 v39 v40 v41 1 0 0 0 0)), ((ad 13), .inl (cI, 2, .inl fT))]) [0, 2] rfl
  refine vp_callSi (va_runV (As := []) (rest := [.int 0]) ⟨hx, hb, hml, hown, hts⟩ (m_manyA l D cI cB cL cZ a0 ad v3 v6 v7 v8 v9 v36 v37 v38 v39 v40 v41 vN fT hf_fT_0) (cwV 0 hts gX12_goDay_X12_many rfl rfl rfl (by decide +kernel) ⟨Nat.le_of_ble_eq_true rfl, Nat.le_of_ble_eq_true rfl⟩) ⟨xr_blind, va_recv hK hPc (ci := 12) (q0 := 0) rfl rfl, fun U hU hW => xr_mk hU hW hPc hK⟩ rfl rfl hl.1 rfl (lv_room (Nat.le_of_ble_eq_true rfl)) dX12_goDay_6 ⟨Nat.le_of_ble_eq_true rfl, Nat.le_of_ble_eq_true rfl⟩).run (fun r_1 hr_1 => ?_)
  clear hPc
  subst hr_1
  refine lv_icmp_ge (tgt := 95) hx hb dX12_goDay_9 (by decide) (fun _ => ?_) (fun c_2 => absurd (by decide) c_2)
  refine lv_aload_n hx hb dX12_goDay_95 rfl (lv_at hl 2 rfl) ?_
  refine va_get (D := D) (ci := 12) (v := .ref (ad 42)) (C := RX12) (T := TX12) (N := 71) hx hb hts iw_X12_goDay_X12 hown hK hP 0 rfl rfl 42 (by decide) (hts (.fieldLink RX12 95 "SoldHouseModel" "all" "[I") (List.mem_of_getElem? (i := 1) rfl)) (fun _ h9 => h9) rfl dX12_goDay_96 ?_
  refine lv_bipush (v := 30) hx hb dX12_goDay_99 (by decide) ?_
  refine lv_dup2_11 hx hb dX12_goDay_101 rfl rfl ?_
  refine va_iald hx hb hK hP 1 0 rfl rfl (show vp_in 30 32 from (by decide : ¬ ((30 : Int32) < 0 ∨ 32 ≤ Int32.toNatClampNeg 30))) dX12_goDay_102 ?_
  refine lv_topi (fun y_3 ey_3 => ?_)
  obtain rfl : y_3 = 0 := ey_3.trans hf_fA_30
  refine lv_iconst (v := 1) hx hb dX12_goDay_103 (by decide) ?_
  refine lv_iadd hx hb dX12_goDay_104 ?_
  refine lv_topi (fun y_4 ey_4 => ?_)
  obtain rfl : y_4 = 1 := ey_4.trans (by decide)
  refine va_iast hx hb hK hP hD hS 1 0 rfl rfl (show vp_in 30 32 from (by decide : ¬ ((30 : Int32) < 0 ∨ 32 ≤ Int32.toNatClampNeg 30))) dX12_goDay_105 (fun H locs hP hD hS => ?_)
  replace hP : va_P D classes [(a0, .inr (12, MF ad 0 v3 0 (-1) v6 v7 v8 v9 vN 0 v36 v37 v38 v39 v40 v41 1 0 0 0 0)), ((ad 42), .inl (cI, 32, .inl (upd fA (Int32.toNatClampNeg 30) 1))), ((ad 13), .inl (cI, 2, .inl fT))] H := hP
  replace hD : va_D A [(a0, .inr (12, MF ad 0 v3 0 (-1) v6 v7 v8 v9 vN 0 v36 v37 v38 v39 v40 v41 1 0 0 0 0)), ((ad 42), .inl (cI, 32, .inl (upd fA (Int32.toNatClampNeg 30) 1))), ((ad 13), .inl (cI, 2, .inl fT))] := hD
  generalize eg_5 : upd fA (Int32.toNatClampNeg 30) 1 = g_5 at hP hD
  clear eg_5
  refine lv_iload_n hx hb dX12_goDay_106 rfl (lv_at hl 1 rfl) ?_
  refine W.widen (k := 0) (n := 0) (Nat.le_of_ble_eq_true rfl) (Nat.le_of_ble_eq_true rfl) ?_
  exact W.iret (v := 0) hx hb hr (fun t ht hW => ⟨⟨0, (), rfl, rfl, trivial⟩, hS.F ht⟩) hS.2.2 dX12_goDay_107
set_option maxHeartbeats 4000000 in
set_option maxRecDepth 100000 in
theorem m_day (l : Launch) (D : va_G) (cI : ClassId) (cB : ClassId) (cL : ClassId) (cZ : ClassId) (a0 : Nat) (ad : Nat → Nat) (v3 : Int32) (v6 : Int32) (v7 : Int32) (v8 : Int32) (v9 : Int32) (v36 : Int32) (v37 : Int32) (v38 : Int32) (v39 : Int32) (v40 : Int32) (v41 : Int32) (vN : Int64) (fA : Nat → Int32) (fw : Nat → Int32) (fT : Nat → Int32) (sz : Nat) (hf_fA_30 : fA 30 = 0) (hf_fT_0 : fT 0 = 0) : Met l yX12_day wsX12_day ({ frames := 2, cells := 0, slots := 0, locals := 42 }) (xp D [(cI, .int), (cB, .byte), (cL, .long), (cZ, .boolean)] [(a0, .inr (12, MF ad 0 v3 0 (-1) v6 v7 v8 v9 vN 0 v36 v37 v38 v39 v40 v41 0 0 0 0 0)), ((ad 42), .inl (cI, 32, .inl fA)), ((ad 45), .inl (cI, 1312, .inl fw)), ((ad 13), .inl (cI, 2, .inl fT))] sz [] [.ref a0]) (va_Qi (fun (r : Int32) (_ : Unit) => r = 0) (fun (_ : Unit) (_ : State) => True) (va_A [(a0, .inr (12, MF ad 0 v3 0 (-1) v6 v7 v8 v9 vN 0 v36 v37 v38 v39 v40 v41 0 0 0 0 0)), ((ad 42), .inl (cI, 32, .inl fA)), ((ad 45), .inl (cI, 1312, .inl fw)), ((ad 13), .inl (cI, 2, .inl fT))] sz)) 0 0 (va_A [(a0, .inr (12, MF ad 0 v3 0 (-1) v6 v7 v8 v9 vN 0 v36 v37 v38 v39 v40 v41 0 0 0 0 0)), ((ad 42), .inl (cI, 32, .inl fA)), ((ad 45), .inl (cI, 1312, .inl fw)), ((ad 13), .inl (cI, 2, .inl fT))] sz) := by
  refine Met.ofW (cc := cX12_day) (maxL := 1) (ret := (some .int)) (by decide) rfl ?_
  intro p e s m args below meth c s₁ B hml hv
  obtain ⟨rfl, hsz, hP, hK, hD0, hNw⟩ := hv
  have hx := B.exec
  have hb := B.bytes
  have hr := B.returns
  have hts := atoms_spec (ws := wsX12_day) B.pre
  have hown : s.vm.findClass RX12 = some m.cls := findClass_of_methodNamed B.named
  have hlocks := B.notSynchronized
  subst hsz
  have hD := hD0.self (sz := s.heap.size)
  clear hD0
  generalize hAe : va_A [(a0, .inr (12, MF ad 0 v3 0 (-1) v6 v7 v8 v9 vN 0 v36 v37 v38 v39 v40 v41 0 0 0 0 0)), ((ad 42), .inl (cI, 32, .inl fA)), ((ad 45), .inl (cI, 1312, .inl fw)), ((ad 13), .inl (cI, 2, .inl fT))] s.heap.size = A at hD ⊢
  have hA : ∀ q : Nat, s.heap.size ≤ q → A q := fun q h => by rw [← hAe]; exact Or.inr h
  have hS : va_S A s.heap s.heap [] := va_S.rf
  clear hAe
  obtain ⟨H, hH⟩ : ∃ H : Heap, H = s.heap := ⟨_, rfl⟩
  obtain ⟨locs, hlocs⟩ : ∃ L : List Loc, L = [] := ⟨_, rfl⟩
  replace hP : va_P D classes [(a0, .inr (12, MF ad 0 v3 0 (-1) v6 v7 v8 v9 vN 0 v36 v37 v38 v39 v40 v41 0 0 0 0 0)), ((ad 42), .inl (cI, 32, .inl fA)), ((ad 45), .inl (cI, 1312, .inl fw)), ((ad 13), .inl (cI, 2, .inl fT))] H := by rw [hH]; exact hP
  replace hS : va_S A s.heap H locs := by rw [hH, hlocs]; exact hS
  rw [← hH, ← hlocs]
  clear hlocs hH
  have hl := lv_entry ([.ref a0]) (n := 1) (Nat.le_of_ble_eq_true rfl)
  rw [lg_entry_eq]
  generalize (lg_sl ([.ref a0]) ++ List.replicate (1 - (lg_sl ([.ref a0])).length) Slot.unset).toArray = ls at hl ⊢
  replace hl : lv_has ls 1 [(0, .ref a0)] := hl
  refine lv_aload_n hx hb dX12_day_0 rfl (lv_at hl 0 rfl) ?_
  refine va_get (D := D) (ci := 12) (v := .ref (ad 42)) (C := RX12) (T := TX12) (N := 71) hx hb hts iw_X12_day_X12 hown hK hP 0 rfl rfl 42 (by decide) (hts (.fieldLink RX12 95 "SoldHouseModel" "all" "[I") (List.mem_of_getElem? (i := 1) rfl)) (fun _ h9 => h9) rfl dX12_day_1 ?_
  refine lv_bipush (v := 30) hx hb dX12_day_4 (by decide) ?_
  refine va_iald hx hb hK hP 1 0 rfl rfl (show vp_in 30 32 from (by decide : ¬ ((30 : Int32) < 0 ∨ 32 ≤ Int32.toNatClampNeg 30))) dX12_day_6 ?_
  refine lv_topi (fun y_1 ey_1 => ?_)
  obtain rfl : y_1 = 0 := ey_1.trans hf_fA_30
  refine lv_sipush (v := 999) hx hb dX12_day_7 (by decide) ?_
  refine lv_icmp_ne (tgt := 15) hx hb dX12_day_10 (by decide) (fun _ => ?_) (fun c_2 => absurd c_2 (by decide))
  refine lv_aload_n hx hb dX12_day_15 rfl (lv_at hl 0 rfl) ?_
  have hPc := hP.sub (ws' := [(a0, .inr (12, MF ad 0 v3 0 (-1) v6 v7 v8 v9 vN 0 v36 v37 v38 v39 v40 v41 0 0 0 0 0)), ((ad 42), .inl (cI, 32, .inl fA)), ((ad 45), .inl (cI, 1312, .inl fw))]) [0, 1, 2] rfl
  have hDc := hD.sub (ws' := [(a0, .inr (12, MF ad 0 v3 0 (-1) v6 v7 v8 v9 vN 0 v36 v37 v38 v39 v40 v41 0 0 0 0 0)), ((ad 42), .inl (cI, 32, .inl fA)), ((ad 45), .inl (cI, 1312, .inl fw))]) [0, 1, 2] (by decide) rfl
  have hFc := va_free (wc := [(a0, .inr (12, MF ad 0 v3 0 (-1) v6 v7 v8 v9 vN 0 v36 v37 v38 v39 v40 v41 0 0 0 0 0)), ((ad 42), .inl (cI, 32, .inl fA)), ((ad 45), .inl (cI, 1312, .inl fw))]) hD hS hA [0, 1, 2] rfl
  refine va_callv (va_runV (As := []) (rest := []) ⟨hx, hb, hml, hown, hts⟩ (m_keepAct l D cI cB cL cZ a0 ad v3 v6 v7 v8 v9 v36 v37 v38 v39 v40 v41 vN fA fw H.size) (cwV 0 hts gX12_day_X12_keepAct rfl rfl rfl (by decide +kernel) ⟨Nat.le_of_ble_eq_true rfl, Nat.le_of_ble_eq_true rfl⟩) ⟨xp_blind, va_recv hK hPc (ci := 12) (q0 := 0) rfl rfl, fun U hU hW => xp_mk hU hW hPc hK hDc xNw_nil⟩ rfl rfl hl.1 rfl (lv_room (Nat.le_of_ble_eq_true rfl)) dX12_day_16 ⟨Nat.le_of_ble_eq_true rfl, Nat.le_of_ble_eq_true rfl⟩) hS (fun q _ h => hFc q h) hFc (fun u9 t9 H1 locs ht9 hvm9 hr_3 hB9 hz9 hk9 hS => ?_)
  obtain ⟨g__4, hP1, hD1⟩ := hB9
  rw [ht9] at hP1
  obtain ⟨hP, hD⟩ := va_join (wr := [((ad 13), .inl (cI, 2, .inl fT))]) (w1 := [(a0, .inr (12, MF ad 0 v3 0 (-1) v6 v7 v8 v9 vN 0 v36 v37 v38 v39 v40 v41 1 0 0 0 0)), ((ad 42), .inl (cI, 32, .inl fA)), ((ad 45), .inl (cI, 1312, .inl g__4))]) hP hD [0, 1, 2] [3] rfl rfl (by decide) (by decide) hk9 hFc hP1 hD1
  clear hz9 hPc hDc hP1 hD1
  clear hk9 hFc ht9 hvm9
  generalize H1 = H at hP hS ⊢
  replace hP : va_P D classes [((ad 13), .inl (cI, 2, .inl fT)), (a0, .inr (12, MF ad 0 v3 0 (-1) v6 v7 v8 v9 vN 0 v36 v37 v38 v39 v40 v41 1 0 0 0 0)), ((ad 42), .inl (cI, 32, .inl fA)), ((ad 45), .inl (cI, 1312, .inl g__4))] H := hP
  replace hD : va_D A [((ad 13), .inl (cI, 2, .inl fT)), (a0, .inr (12, MF ad 0 v3 0 (-1) v6 v7 v8 v9 vN 0 v36 v37 v38 v39 v40 v41 1 0 0 0 0)), ((ad 42), .inl (cI, 32, .inl fA)), ((ad 45), .inl (cI, 1312, .inl g__4))] := hD
  refine lv_aload_n hx hb dX12_day_19 rfl (lv_at hl 0 rfl) ?_
  have hPc := hP.sub (ws' := [(a0, .inr (12, MF ad 0 v3 0 (-1) v6 v7 v8 v9 vN 0 v36 v37 v38 v39 v40 v41 1 0 0 0 0)), ((ad 42), .inl (cI, 32, .inl fA)), ((ad 13), .inl (cI, 2, .inl fT))]) [1, 2, 0] rfl
  have hDc := hD.sub (ws' := [(a0, .inr (12, MF ad 0 v3 0 (-1) v6 v7 v8 v9 vN 0 v36 v37 v38 v39 v40 v41 1 0 0 0 0)), ((ad 42), .inl (cI, 32, .inl fA)), ((ad 13), .inl (cI, 2, .inl fT))]) [1, 2, 0] (by decide) rfl
  have hFc := va_free (wc := [(a0, .inr (12, MF ad 0 v3 0 (-1) v6 v7 v8 v9 vN 0 v36 v37 v38 v39 v40 v41 1 0 0 0 0)), ((ad 42), .inl (cI, 32, .inl fA)), ((ad 13), .inl (cI, 2, .inl fT))]) hD hS hA [1, 2, 0] rfl
  refine va_calli (va_runV (As := []) (rest := []) ⟨hx, hb, hml, hown, hts⟩ (m_goDay l D cI cB cL cZ a0 ad v3 v6 v7 v8 v9 v36 v37 v38 v39 v40 v41 vN fA fT H.size hf_fA_30 hf_fT_0) (cwV 0 hts gX12_day_X12_goDay rfl rfl rfl (by decide +kernel) ⟨Nat.le_of_ble_eq_true rfl, Nat.le_of_ble_eq_true rfl⟩) ⟨xp_blind, va_recv hK hPc (ci := 12) (q0 := 0) rfl rfl, fun U hU hW => xp_mk hU hW hPc hK hDc xNw_nil⟩ rfl rfl hl.1 rfl (lv_room (Nat.le_of_ble_eq_true rfl)) dX12_day_20 ⟨Nat.le_of_ble_eq_true rfl, Nat.le_of_ble_eq_true rfl⟩) hS (fun q _ h => hFc q h) hFc (fun r_5 u9 t9 H1 locs ht9 hvm9 hr_5 hB9 hz9 hk9 hS => ?_)
  clear hB9 hz9 hPc hDc
  obtain ⟨hP, hD⟩ := va_join (wr := [((ad 45), .inl (cI, 1312, .inl g__4))]) (w1 := []) hP hD [1, 2, 0] [3] rfl rfl (by decide) (by decide) hk9 hFc (fun k q h => by simp at h) ⟨fun i j p q h => by simp at h, fun k q h => by simp at h⟩
  clear hk9 hFc ht9 hvm9
  generalize H1 = H at hP hS ⊢
  replace hP : va_P D classes [((ad 45), .inl (cI, 1312, .inl g__4))] H := hP
  replace hD : va_D A [((ad 45), .inl (cI, 1312, .inl g__4))] := hD
  subst hr_5
  refine W.widen (k := 0) (n := 0) (Nat.le_of_ble_eq_true rfl) (Nat.le_of_ble_eq_true rfl) ?_
  exact W.iret (v := 0) hx hb hr (fun t ht hW => ⟨⟨0, (), rfl, rfl, trivial⟩, hS.F ht⟩) hS.2.2 dX12_day_23
set_option maxHeartbeats 4000000 in
set_option maxRecDepth 100000 in
theorem m_image (l : Launch) (D : va_G) (cI : ClassId) (cB : ClassId) (cL : ClassId) (cZ : ClassId) (a0 : Nat) (ad : Nat → Nat) (v3 : Int32) (v6 : Int32) (v7 : Int32) (v8 : Int32) (v9 : Int32) (v36 : Int32) (v37 : Int32) (v38 : Int32) (v39 : Int32) (v40 : Int32) (v41 : Int32) (vN : Int64) (fA : Nat → Int32) (fb : Nat → Int32) (fB : Nat → Int32) (x : Int32) (sz : Nat) (hf_fA_30 : fA 30 = 0) : Met l yX12_image wsX12_image ({ frames := 1, cells := 0, slots := 0, locals := 22 }) (xp D [(cI, .int), (cB, .byte), (cL, .long), (cZ, .boolean)] [(a0, .inr (12, MF ad 0 v3 0 (-1) v6 v7 v8 v9 vN 0 v36 v37 v38 v39 v40 v41 0 0 0 0 0)), ((ad 42), .inl (cI, 32, .inl fA)), ((ad 69), .inl (cI, 96, .inl fb)), ((ad 70), .inl (cZ, 3, .inl fB))] sz [] [.ref a0, .int x]) (va_Qi (fun (r : Int32) (_ : Unit) => r = sp_rng 2 x) (fun (_ : Unit) (_ : State) => True) (va_A [(a0, .inr (12, MF ad 0 v3 0 (-1) v6 v7 v8 v9 vN 0 v36 v37 v38 v39 v40 v41 0 0 0 0 0)), ((ad 42), .inl (cI, 32, .inl fA)), ((ad 69), .inl (cI, 96, .inl fb)), ((ad 70), .inl (cZ, 3, .inl fB))] sz)) 0 0 (va_A [(a0, .inr (12, MF ad 0 v3 0 (-1) v6 v7 v8 v9 vN 0 v36 v37 v38 v39 v40 v41 0 0 0 0 0)), ((ad 42), .inl (cI, 32, .inl fA)), ((ad 69), .inl (cI, 96, .inl fb)), ((ad 70), .inl (cZ, 3, .inl fB))] sz) := by
  refine Met.ofW (cc := cX12_image) (maxL := 3) (ret := (some .int)) (by decide) rfl ?_
  intro p e s m args below meth c s₁ B hml hv
  obtain ⟨rfl, hsz, hP, hK, hD0, hNw⟩ := hv
  have hx := B.exec
  have hb := B.bytes
  have hr := B.returns
  have hts := atoms_spec (ws := wsX12_image) B.pre
  have hown : s.vm.findClass RX12 = some m.cls := findClass_of_methodNamed B.named
  have hlocks := B.notSynchronized
  subst hsz
  have hD := hD0.self (sz := s.heap.size)
  clear hD0
  generalize hAe : va_A [(a0, .inr (12, MF ad 0 v3 0 (-1) v6 v7 v8 v9 vN 0 v36 v37 v38 v39 v40 v41 0 0 0 0 0)), ((ad 42), .inl (cI, 32, .inl fA)), ((ad 69), .inl (cI, 96, .inl fb)), ((ad 70), .inl (cZ, 3, .inl fB))] s.heap.size = A at hD ⊢
  have hA : ∀ q : Nat, s.heap.size ≤ q → A q := fun q h => by rw [← hAe]; exact Or.inr h
  have hS : va_S A s.heap s.heap [] := va_S.rf
  clear hAe
  obtain ⟨H, hH⟩ : ∃ H : Heap, H = s.heap := ⟨_, rfl⟩
  obtain ⟨locs, hlocs⟩ : ∃ L : List Loc, L = [] := ⟨_, rfl⟩
  replace hP : va_P D classes [(a0, .inr (12, MF ad 0 v3 0 (-1) v6 v7 v8 v9 vN 0 v36 v37 v38 v39 v40 v41 0 0 0 0 0)), ((ad 42), .inl (cI, 32, .inl fA)), ((ad 69), .inl (cI, 96, .inl fb)), ((ad 70), .inl (cZ, 3, .inl fB))] H := by rw [hH]; exact hP
  replace hS : va_S A s.heap H locs := by rw [hH, hlocs]; exact hS
  rw [← hH, ← hlocs]
  clear hlocs hH
  have hl := lv_entry ([.ref a0, .int x]) (n := 3) (Nat.le_of_ble_eq_true rfl)
  rw [lg_entry_eq]
  generalize (lg_sl ([.ref a0, .int x]) ++ List.replicate (3 - (lg_sl ([.ref a0, .int x])).length) Slot.unset).toArray = ls at hl ⊢
  replace hl : lv_has ls 3 [(0, .ref a0), (1, .int x)] := hl
  refine lv_iload_n hx hb dX12_image_0 rfl (lv_at hl 1 rfl) ?_
  refine lv_iconst (v := 0) hx hb dX12_image_1 (by decide) ?_
  refine lv_iconst (v := 2) hx hb dX12_image_2 (by decide) ?_
  have hPc := hP.sub (ws' := []) [] rfl
  refine vp_callSi (va_runS (As := [.int x, .int 0, .int 2]) (rest := []) ⟨hx, hb, hml, hown, hts⟩ (m_isIn l D cI cB cL cZ x 0 2) (va_cwS 3 hts gX12_image_X12_isIn rfl rfl rfl (by decide +kernel) ⟨Nat.le_of_ble_eq_true rfl, Nat.le_of_ble_eq_true rfl⟩) ⟨xr_blind, fun U hU hW => xr_mk hU hW hPc hK⟩ rfl rfl hl.1 rfl (lv_room (Nat.le_of_ble_eq_true rfl)) dX12_image_3 ⟨Nat.le_of_ble_eq_true rfl, Nat.le_of_ble_eq_true rfl⟩).run (fun r_1 hr_1 => ?_)
  clear hPc
  rcases hr_1 with ⟨rfl, hr_1_0, hr_1_1⟩ | ⟨rfl, hr_1_0⟩ | ⟨rfl, hr_1_0, hr_1_1⟩
  · refine lv_if_ne (tgt := 11) hx hb dX12_image_6 (by decide) (fun _ => ?_) (fun c_2 => absurd c_2 (by decide))
    refine lv_iconst (v := 0) hx hb dX12_image_11 (by decide) ?_
    refine lv_istore_n (lv' := [(2, .int 0), (0, .ref a0), (1, .int x)]) hx hb dX12_image_12 rfl hl (by decide) rfl (fun ls hl => ?_)
    obtain ⟨j_3, hj_3, rfl⟩ := nI_of2 (M := 2) (n := 2) rfl hr_1_0 (Int32.not_lt.mp hr_1_1)
    rcases (show j_3 = 0 ∨ j_3 = 1 ∨ j_3 = 2 by omega) with rfl | rfl | rfl
    · obtain ⟨i13, hi13⟩ : ∃ i : Nat, i = 0 := ⟨0, rfl⟩
      replace hl : lv_has ls 3 [(2, .int (nI i13)), (0, .ref a0), (1, .int (nI 0))] := by
        rw [hi13]; exact hl
      obtain ⟨g_4, eg_4⟩ : ∃ g : Nat → Int32, g = fb := ⟨_, rfl⟩
      rw [← eg_4] at hP hD
      clear eg_4
      have hle_i13 : i13 ≤ 32 := by omega
      obtain ⟨n13, hnn13⟩ : ∃ n : Nat, 32 + 1 ≤ i13 + n := ⟨32 + 1, by omega⟩
      clear hi13
      induction n13 generalizing i13 H locs ls g_4 with
      | zero => omega
      | succ n13 ih13 =>
        refine lv_iload_n hx hb dX12_image_13 rfl (lv_at hl 0 rfl) ?_
        refine lv_bipush (v := 32) hx hb dX12_image_14 (by decide) ?_
        refine lv_icmp_ge (tgt := 42) hx hb dX12_image_16 (by decide) (fun c_5 => ?_) (fun c_5 => ?_)
        · refine lv_aload_n hx hb dX12_image_42 rfl (lv_at hl 1 rfl) ?_
          refine va_get (D := D) (ci := 12) (v := .ref (ad 70)) (C := RX12) (T := TX12) (N := 71) hx hb hts iw_X12_image_X12 hown hK hP 0 rfl rfl 70 (by decide) (hts (.fieldLink RX12 164 "SoldHouseModel" "isBoxed" "[Z") (List.mem_of_getElem? (i := 3) rfl)) (fun _ h9 => h9) rfl dX12_image_43 ?_
          refine lv_iload_n hx hb dX12_image_46 rfl (lv_at hl 2 rfl) ?_
          refine lv_iconst (v := 1) hx hb dX12_image_47 (by decide) ?_
          refine va_zast hx hb hK hP hD hS 3 3 rfl rfl (show vp_in (nI 0) 3 from (by decide : ¬ ((nI 0) < (0 : Int32) ∨ 3 ≤ Int32.toNatClampNeg (nI 0)))) dX12_image_48 (fun H locs hP hD hS => ?_)
          replace hP : va_P D classes [(a0, .inr (12, MF ad 0 v3 0 (-1) v6 v7 v8 v9 vN 0 v36 v37 v38 v39 v40 v41 0 0 0 0 0)), ((ad 42), .inl (cI, 32, .inl fA)), ((ad 69), .inl (cI, 96, .inl g_4)), ((ad 70), .inl (cZ, 3, .inl (upd fB (Int32.toNatClampNeg (nI 0)) (vp_nar .boolean 1))))] H := hP
          replace hD : va_D A [(a0, .inr (12, MF ad 0 v3 0 (-1) v6 v7 v8 v9 vN 0 v36 v37 v38 v39 v40 v41 0 0 0 0 0)), ((ad 42), .inl (cI, 32, .inl fA)), ((ad 69), .inl (cI, 96, .inl g_4)), ((ad 70), .inl (cZ, 3, .inl (upd fB (Int32.toNatClampNeg (nI 0)) (vp_nar .boolean 1))))] := hD
          generalize eg_6 : upd fB (Int32.toNatClampNeg (nI 0)) (vp_nar .boolean 1) = g_6 at hP hD
          clear eg_6
          refine lv_aload_n hx hb dX12_image_49 rfl (lv_at hl 1 rfl) ?_
          refine va_get (D := D) (ci := 12) (v := .ref (ad 42)) (C := RX12) (T := TX12) (N := 71) hx hb hts iw_X12_image_X12 hown hK hP 0 rfl rfl 42 (by decide) (hts (.fieldLink RX12 95 "SoldHouseModel" "all" "[I") (List.mem_of_getElem? (i := 2) rfl)) (fun _ h9 => h9) rfl dX12_image_50 ?_
          refine lv_bipush (v := 30) hx hb dX12_image_53 (by decide) ?_
          refine va_iald hx hb hK hP 1 0 rfl rfl (show vp_in 30 32 from (by decide : ¬ ((30 : Int32) < 0 ∨ 32 ≤ Int32.toNatClampNeg 30))) dX12_image_55 ?_
          refine lv_topi (fun y_7 ey_7 => ?_)
          obtain rfl : y_7 = 0 := ey_7.trans hf_fA_30
          refine W.widen (k := 0) (n := 0) (Nat.le_of_ble_eq_true rfl) (Nat.le_of_ble_eq_true rfl) ?_
          exact W.iret (v := 0) hx hb hr (fun t ht hW => ⟨⟨0, (), rfl, (by decide), trivial⟩, hS.F ht⟩) hS.2.2 dX12_image_56
        · have hlt_i13 : i13 < 32 := by
            rcases Nat.lt_or_ge i13 32 with q | q
            · exact q
            · exact absurd (nI_le q (by omega)) c_5
          refine lv_aload_n hx hb dX12_image_19 rfl (lv_at hl 1 rfl) ?_
          refine va_get (D := D) (ci := 12) (v := .ref (ad 69)) (C := RX12) (T := TX12) (N := 71) hx hb hts iw_X12_image_X12 hown hK hP 0 rfl rfl 69 (by decide) (hts (.fieldLink RX12 161 "SoldHouseModel" "boxAll" "[I") (List.mem_of_getElem? (i := 1) rfl)) (fun _ h9 => h9) rfl dX12_image_20 ?_
          refine lv_bipush (v := 32) hx hb dX12_image_23 (by decide) ?_
          refine lv_iload_n hx hb dX12_image_25 rfl (lv_at hl 2 rfl) ?_
          refine lv_imul hx hb dX12_image_26 ?_
          refine lv_topi (fun y_8 ey_8 => ?_)
          obtain rfl : y_8 = 0 := ey_8.trans (by decide)
          refine lv_iload_n hx hb dX12_image_27 rfl (lv_at hl 0 rfl) ?_
          refine lv_iadd hx hb dX12_image_28 ?_
          refine lv_topi (fun y_9 ey_9 => ?_)
          rw [Int32.zero_add] at ey_9
          replace ey_9 := ey_9.symm
          subst ey_9
          refine lv_aload_n hx hb dX12_image_29 rfl (lv_at hl 1 rfl) ?_
          refine va_get (D := D) (ci := 12) (v := .ref (ad 42)) (C := RX12) (T := TX12) (N := 71) hx hb hts iw_X12_image_X12 hown hK hP 0 rfl rfl 42 (by decide) (hts (.fieldLink RX12 95 "SoldHouseModel" "all" "[I") (List.mem_of_getElem? (i := 2) rfl)) (fun _ h9 => h9) rfl dX12_image_30 ?_
          refine lv_iload_n hx hb dX12_image_33 rfl (lv_at hl 0 rfl) ?_
          refine va_iald hx hb hK hP 1 0 rfl rfl (vp_in_nI (by omega) (by decide)) dX12_image_34 ?_
          refine lv_topi (fun y_10 ey_10 => ?_)
          refine va_iast hx hb hK hP hD hS 2 0 rfl rfl (vp_in_nI (by omega) (by decide)) dX12_image_35 (fun H locs hP hD hS => ?_)
          replace hP : va_P D classes [(a0, .inr (12, MF ad 0 v3 0 (-1) v6 v7 v8 v9 vN 0 v36 v37 v38 v39 v40 v41 0 0 0 0 0)), ((ad 42), .inl (cI, 32, .inl fA)), ((ad 69), .inl (cI, 96, .inl (upd g_4 (Int32.toNatClampNeg (nI i13)) y_10))), ((ad 70), .inl (cZ, 3, .inl fB))] H := hP
          replace hD : va_D A [(a0, .inr (12, MF ad 0 v3 0 (-1) v6 v7 v8 v9 vN 0 v36 v37 v38 v39 v40 v41 0 0 0 0 0)), ((ad 42), .inl (cI, 32, .inl fA)), ((ad 69), .inl (cI, 96, .inl (upd g_4 (Int32.toNatClampNeg (nI i13)) y_10))), ((ad 70), .inl (cZ, 3, .inl fB))] := hD
          generalize eg_11 : upd g_4 (Int32.toNatClampNeg (nI i13)) y_10 = g_11 at hP hD
          clear eg_11
          refine lv_iinc (v := nI (i13 + 1)) (lv' := [(2, .int (nI (i13 + 1))), (0, .ref a0), (1, .int (nI 0))]) hx hb dX12_image_36 hl (k := 0) rfl (nI_1 i13) (by decide) rfl (fun ls hl => ?_)
          refine lv_goto (tgt := 13) hx hb dX12_image_39 (by decide) ?_
          replace hl : lv_has ls 3 [(2, .int (nI (i13 + 1))), (0, .ref a0), (1, .int (nI 0))] := lv_sub hl [0, 1, 2] rfl
          apply ih13 (i13 := (i13 + 1)) (H := H) (locs := locs) (ls := ls) (g_4 := (g_11)) <;> first | assumption | omega
    · obtain ⟨i13, hi13⟩ : ∃ i : Nat, i = 0 := ⟨0, rfl⟩
      replace hl : lv_has ls 3 [(2, .int (nI i13)), (0, .ref a0), (1, .int (nI 1))] := by
        rw [hi13]; exact hl
      obtain ⟨g_12, eg_12⟩ : ∃ g : Nat → Int32, g = fb := ⟨_, rfl⟩
      rw [← eg_12] at hP hD
      clear eg_12
      have hle_i13 : i13 ≤ 32 := by omega
      obtain ⟨n13, hnn13⟩ : ∃ n : Nat, 32 + 1 ≤ i13 + n := ⟨32 + 1, by omega⟩
      clear hi13
      induction n13 generalizing i13 H locs ls g_12 with
      | zero => omega
      | succ n13 ih13 =>
        refine lv_iload_n hx hb dX12_image_13 rfl (lv_at hl 0 rfl) ?_
        refine lv_bipush (v := 32) hx hb dX12_image_14 (by decide) ?_
        refine lv_icmp_ge (tgt := 42) hx hb dX12_image_16 (by decide) (fun c_13 => ?_) (fun c_13 => ?_)
        · refine lv_aload_n hx hb dX12_image_42 rfl (lv_at hl 1 rfl) ?_
          refine va_get (D := D) (ci := 12) (v := .ref (ad 70)) (C := RX12) (T := TX12) (N := 71) hx hb hts iw_X12_image_X12 hown hK hP 0 rfl rfl 70 (by decide) (hts (.fieldLink RX12 164 "SoldHouseModel" "isBoxed" "[Z") (List.mem_of_getElem? (i := 3) rfl)) (fun _ h9 => h9) rfl dX12_image_43 ?_
          refine lv_iload_n hx hb dX12_image_46 rfl (lv_at hl 2 rfl) ?_
          refine lv_iconst (v := 1) hx hb dX12_image_47 (by decide) ?_
          refine va_zast hx hb hK hP hD hS 3 3 rfl rfl (show vp_in (nI 1) 3 from (by decide : ¬ ((nI 1) < (0 : Int32) ∨ 3 ≤ Int32.toNatClampNeg (nI 1)))) dX12_image_48 (fun H locs hP hD hS => ?_)
          replace hP : va_P D classes [(a0, .inr (12, MF ad 0 v3 0 (-1) v6 v7 v8 v9 vN 0 v36 v37 v38 v39 v40 v41 0 0 0 0 0)), ((ad 42), .inl (cI, 32, .inl fA)), ((ad 69), .inl (cI, 96, .inl g_12)), ((ad 70), .inl (cZ, 3, .inl (upd fB (Int32.toNatClampNeg (nI 1)) (vp_nar .boolean 1))))] H := hP
          replace hD : va_D A [(a0, .inr (12, MF ad 0 v3 0 (-1) v6 v7 v8 v9 vN 0 v36 v37 v38 v39 v40 v41 0 0 0 0 0)), ((ad 42), .inl (cI, 32, .inl fA)), ((ad 69), .inl (cI, 96, .inl g_12)), ((ad 70), .inl (cZ, 3, .inl (upd fB (Int32.toNatClampNeg (nI 1)) (vp_nar .boolean 1))))] := hD
          generalize eg_14 : upd fB (Int32.toNatClampNeg (nI 1)) (vp_nar .boolean 1) = g_14 at hP hD
          clear eg_14
          refine lv_aload_n hx hb dX12_image_49 rfl (lv_at hl 1 rfl) ?_
          refine va_get (D := D) (ci := 12) (v := .ref (ad 42)) (C := RX12) (T := TX12) (N := 71) hx hb hts iw_X12_image_X12 hown hK hP 0 rfl rfl 42 (by decide) (hts (.fieldLink RX12 95 "SoldHouseModel" "all" "[I") (List.mem_of_getElem? (i := 2) rfl)) (fun _ h9 => h9) rfl dX12_image_50 ?_
          refine lv_bipush (v := 30) hx hb dX12_image_53 (by decide) ?_
          refine va_iald hx hb hK hP 1 0 rfl rfl (show vp_in 30 32 from (by decide : ¬ ((30 : Int32) < 0 ∨ 32 ≤ Int32.toNatClampNeg 30))) dX12_image_55 ?_
          refine lv_topi (fun y_15 ey_15 => ?_)
          obtain rfl : y_15 = 0 := ey_15.trans hf_fA_30
          refine W.widen (k := 0) (n := 0) (Nat.le_of_ble_eq_true rfl) (Nat.le_of_ble_eq_true rfl) ?_
          exact W.iret (v := 0) hx hb hr (fun t ht hW => ⟨⟨0, (), rfl, (by decide), trivial⟩, hS.F ht⟩) hS.2.2 dX12_image_56
        · have hlt_i13 : i13 < 32 := by
            rcases Nat.lt_or_ge i13 32 with q | q
            · exact q
            · exact absurd (nI_le q (by omega)) c_13
          refine lv_aload_n hx hb dX12_image_19 rfl (lv_at hl 1 rfl) ?_
          refine va_get (D := D) (ci := 12) (v := .ref (ad 69)) (C := RX12) (T := TX12) (N := 71) hx hb hts iw_X12_image_X12 hown hK hP 0 rfl rfl 69 (by decide) (hts (.fieldLink RX12 161 "SoldHouseModel" "boxAll" "[I") (List.mem_of_getElem? (i := 1) rfl)) (fun _ h9 => h9) rfl dX12_image_20 ?_
          refine lv_bipush (v := 32) hx hb dX12_image_23 (by decide) ?_
          refine lv_iload_n hx hb dX12_image_25 rfl (lv_at hl 2 rfl) ?_
          refine lv_imul hx hb dX12_image_26 ?_
          refine lv_topi (fun y_16 ey_16 => ?_)
          obtain rfl : y_16 = 32 := ey_16.trans (by decide)
          refine lv_iload_n hx hb dX12_image_27 rfl (lv_at hl 0 rfl) ?_
          refine lv_iadd hx hb dX12_image_28 ?_
          refine lv_topi (fun y_17 ey_17 => ?_)
          obtain rfl : y_17 = nI (32 + i13) := ey_17.trans (nI_add 32 i13)
          refine lv_aload_n hx hb dX12_image_29 rfl (lv_at hl 1 rfl) ?_
          refine va_get (D := D) (ci := 12) (v := .ref (ad 42)) (C := RX12) (T := TX12) (N := 71) hx hb hts iw_X12_image_X12 hown hK hP 0 rfl rfl 42 (by decide) (hts (.fieldLink RX12 95 "SoldHouseModel" "all" "[I") (List.mem_of_getElem? (i := 2) rfl)) (fun _ h9 => h9) rfl dX12_image_30 ?_
          refine lv_iload_n hx hb dX12_image_33 rfl (lv_at hl 0 rfl) ?_
          refine va_iald hx hb hK hP 1 0 rfl rfl (vp_in_nI (by omega) (by decide)) dX12_image_34 ?_
          refine lv_topi (fun y_18 ey_18 => ?_)
          refine va_iast hx hb hK hP hD hS 2 0 rfl rfl (vp_in_nI (by omega) (by decide)) dX12_image_35 (fun H locs hP hD hS => ?_)
          replace hP : va_P D classes [(a0, .inr (12, MF ad 0 v3 0 (-1) v6 v7 v8 v9 vN 0 v36 v37 v38 v39 v40 v41 0 0 0 0 0)), ((ad 42), .inl (cI, 32, .inl fA)), ((ad 69), .inl (cI, 96, .inl (upd g_12 (Int32.toNatClampNeg (nI (32 + i13))) y_18))), ((ad 70), .inl (cZ, 3, .inl fB))] H := hP
          replace hD : va_D A [(a0, .inr (12, MF ad 0 v3 0 (-1) v6 v7 v8 v9 vN 0 v36 v37 v38 v39 v40 v41 0 0 0 0 0)), ((ad 42), .inl (cI, 32, .inl fA)), ((ad 69), .inl (cI, 96, .inl (upd g_12 (Int32.toNatClampNeg (nI (32 + i13))) y_18))), ((ad 70), .inl (cZ, 3, .inl fB))] := hD
          generalize eg_19 : upd g_12 (Int32.toNatClampNeg (nI (32 + i13))) y_18 = g_19 at hP hD
          clear eg_19
          refine lv_iinc (v := nI (i13 + 1)) (lv' := [(2, .int (nI (i13 + 1))), (0, .ref a0), (1, .int (nI 1))]) hx hb dX12_image_36 hl (k := 0) rfl (nI_1 i13) (by decide) rfl (fun ls hl => ?_)
          refine lv_goto (tgt := 13) hx hb dX12_image_39 (by decide) ?_
          replace hl : lv_has ls 3 [(2, .int (nI (i13 + 1))), (0, .ref a0), (1, .int (nI 1))] := lv_sub hl [0, 1, 2] rfl
          apply ih13 (i13 := (i13 + 1)) (H := H) (locs := locs) (ls := ls) (g_12 := (g_19)) <;> first | assumption | omega
    · obtain ⟨i13, hi13⟩ : ∃ i : Nat, i = 0 := ⟨0, rfl⟩
      replace hl : lv_has ls 3 [(2, .int (nI i13)), (0, .ref a0), (1, .int (nI 2))] := by
        rw [hi13]; exact hl
      obtain ⟨g_20, eg_20⟩ : ∃ g : Nat → Int32, g = fb := ⟨_, rfl⟩
      rw [← eg_20] at hP hD
      clear eg_20
      have hle_i13 : i13 ≤ 32 := by omega
      obtain ⟨n13, hnn13⟩ : ∃ n : Nat, 32 + 1 ≤ i13 + n := ⟨32 + 1, by omega⟩
      clear hi13
      induction n13 generalizing i13 H locs ls g_20 with
      | zero => omega
      | succ n13 ih13 =>
        refine lv_iload_n hx hb dX12_image_13 rfl (lv_at hl 0 rfl) ?_
        refine lv_bipush (v := 32) hx hb dX12_image_14 (by decide) ?_
        refine lv_icmp_ge (tgt := 42) hx hb dX12_image_16 (by decide) (fun c_21 => ?_) (fun c_21 => ?_)
        · refine lv_aload_n hx hb dX12_image_42 rfl (lv_at hl 1 rfl) ?_
          refine va_get (D := D) (ci := 12) (v := .ref (ad 70)) (C := RX12) (T := TX12) (N := 71) hx hb hts iw_X12_image_X12 hown hK hP 0 rfl rfl 70 (by decide) (hts (.fieldLink RX12 164 "SoldHouseModel" "isBoxed" "[Z") (List.mem_of_getElem? (i := 3) rfl)) (fun _ h9 => h9) rfl dX12_image_43 ?_
          refine lv_iload_n hx hb dX12_image_46 rfl (lv_at hl 2 rfl) ?_
          refine lv_iconst (v := 1) hx hb dX12_image_47 (by decide) ?_
          refine va_zast hx hb hK hP hD hS 3 3 rfl rfl (show vp_in (nI 2) 3 from (by decide : ¬ ((nI 2) < (0 : Int32) ∨ 3 ≤ Int32.toNatClampNeg (nI 2)))) dX12_image_48 (fun H locs hP hD hS => ?_)
          replace hP : va_P D classes [(a0, .inr (12, MF ad 0 v3 0 (-1) v6 v7 v8 v9 vN 0 v36 v37 v38 v39 v40 v41 0 0 0 0 0)), ((ad 42), .inl (cI, 32, .inl fA)), ((ad 69), .inl (cI, 96, .inl g_20)), ((ad 70), .inl (cZ, 3, .inl (upd fB (Int32.toNatClampNeg (nI 2)) (vp_nar .boolean 1))))] H := hP
          replace hD : va_D A [(a0, .inr (12, MF ad 0 v3 0 (-1) v6 v7 v8 v9 vN 0 v36 v37 v38 v39 v40 v41 0 0 0 0 0)), ((ad 42), .inl (cI, 32, .inl fA)), ((ad 69), .inl (cI, 96, .inl g_20)), ((ad 70), .inl (cZ, 3, .inl (upd fB (Int32.toNatClampNeg (nI 2)) (vp_nar .boolean 1))))] := hD
          generalize eg_22 : upd fB (Int32.toNatClampNeg (nI 2)) (vp_nar .boolean 1) = g_22 at hP hD
          clear eg_22
          refine lv_aload_n hx hb dX12_image_49 rfl (lv_at hl 1 rfl) ?_
          refine va_get (D := D) (ci := 12) (v := .ref (ad 42)) (C := RX12) (T := TX12) (N := 71) hx hb hts iw_X12_image_X12 hown hK hP 0 rfl rfl 42 (by decide) (hts (.fieldLink RX12 95 "SoldHouseModel" "all" "[I") (List.mem_of_getElem? (i := 2) rfl)) (fun _ h9 => h9) rfl dX12_image_50 ?_
          refine lv_bipush (v := 30) hx hb dX12_image_53 (by decide) ?_
          refine va_iald hx hb hK hP 1 0 rfl rfl (show vp_in 30 32 from (by decide : ¬ ((30 : Int32) < 0 ∨ 32 ≤ Int32.toNatClampNeg 30))) dX12_image_55 ?_
          refine lv_topi (fun y_23 ey_23 => ?_)
          obtain rfl : y_23 = 0 := ey_23.trans hf_fA_30
          refine W.widen (k := 0) (n := 0) (Nat.le_of_ble_eq_true rfl) (Nat.le_of_ble_eq_true rfl) ?_
          exact W.iret (v := 0) hx hb hr (fun t ht hW => ⟨⟨0, (), rfl, (by decide), trivial⟩, hS.F ht⟩) hS.2.2 dX12_image_56
        · have hlt_i13 : i13 < 32 := by
            rcases Nat.lt_or_ge i13 32 with q | q
            · exact q
            · exact absurd (nI_le q (by omega)) c_21
          refine lv_aload_n hx hb dX12_image_19 rfl (lv_at hl 1 rfl) ?_
          refine va_get (D := D) (ci := 12) (v := .ref (ad 69)) (C := RX12) (T := TX12) (N := 71) hx hb hts iw_X12_image_X12 hown hK hP 0 rfl rfl 69 (by decide) (hts (.fieldLink RX12 161 "SoldHouseModel" "boxAll" "[I") (List.mem_of_getElem? (i := 1) rfl)) (fun _ h9 => h9) rfl dX12_image_20 ?_
          refine lv_bipush (v := 32) hx hb dX12_image_23 (by decide) ?_
          refine lv_iload_n hx hb dX12_image_25 rfl (lv_at hl 2 rfl) ?_
          refine lv_imul hx hb dX12_image_26 ?_
          refine lv_topi (fun y_24 ey_24 => ?_)
          obtain rfl : y_24 = 64 := ey_24.trans (by decide)
          refine lv_iload_n hx hb dX12_image_27 rfl (lv_at hl 0 rfl) ?_
          refine lv_iadd hx hb dX12_image_28 ?_
          refine lv_topi (fun y_25 ey_25 => ?_)
          obtain rfl : y_25 = nI (64 + i13) := ey_25.trans (nI_add 64 i13)
          refine lv_aload_n hx hb dX12_image_29 rfl (lv_at hl 1 rfl) ?_
          refine va_get (D := D) (ci := 12) (v := .ref (ad 42)) (C := RX12) (T := TX12) (N := 71) hx hb hts iw_X12_image_X12 hown hK hP 0 rfl rfl 42 (by decide) (hts (.fieldLink RX12 95 "SoldHouseModel" "all" "[I") (List.mem_of_getElem? (i := 2) rfl)) (fun _ h9 => h9) rfl dX12_image_30 ?_
          refine lv_iload_n hx hb dX12_image_33 rfl (lv_at hl 0 rfl) ?_
          refine va_iald hx hb hK hP 1 0 rfl rfl (vp_in_nI (by omega) (by decide)) dX12_image_34 ?_
          refine lv_topi (fun y_26 ey_26 => ?_)
          refine va_iast hx hb hK hP hD hS 2 0 rfl rfl (vp_in_nI (by omega) (by decide)) dX12_image_35 (fun H locs hP hD hS => ?_)
          replace hP : va_P D classes [(a0, .inr (12, MF ad 0 v3 0 (-1) v6 v7 v8 v9 vN 0 v36 v37 v38 v39 v40 v41 0 0 0 0 0)), ((ad 42), .inl (cI, 32, .inl fA)), ((ad 69), .inl (cI, 96, .inl (upd g_20 (Int32.toNatClampNeg (nI (64 + i13))) y_26))), ((ad 70), .inl (cZ, 3, .inl fB))] H := hP
          replace hD : va_D A [(a0, .inr (12, MF ad 0 v3 0 (-1) v6 v7 v8 v9 vN 0 v36 v37 v38 v39 v40 v41 0 0 0 0 0)), ((ad 42), .inl (cI, 32, .inl fA)), ((ad 69), .inl (cI, 96, .inl (upd g_20 (Int32.toNatClampNeg (nI (64 + i13))) y_26))), ((ad 70), .inl (cZ, 3, .inl fB))] := hD
          generalize eg_27 : upd g_20 (Int32.toNatClampNeg (nI (64 + i13))) y_26 = g_27 at hP hD
          clear eg_27
          refine lv_iinc (v := nI (i13 + 1)) (lv' := [(2, .int (nI (i13 + 1))), (0, .ref a0), (1, .int (nI 2))]) hx hb dX12_image_36 hl (k := 0) rfl (nI_1 i13) (by decide) rfl (fun ls hl => ?_)
          refine lv_goto (tgt := 13) hx hb dX12_image_39 (by decide) ?_
          replace hl : lv_has ls 3 [(2, .int (nI (i13 + 1))), (0, .ref a0), (1, .int (nI 2))] := lv_sub hl [0, 1, 2] rfl
          apply ih13 (i13 := (i13 + 1)) (H := H) (locs := locs) (ls := ls) (g_20 := (g_27)) <;> first | assumption | omega
  · refine lv_if_ne (tgt := 11) hx hb dX12_image_6 (by decide) (fun c_28 => absurd (by decide) c_28) (fun _ => ?_)
    refine lv_iconst (v := (-1)) hx hb dX12_image_9 (by decide) ?_
    refine W.widen (k := 0) (n := 0) (Nat.le_of_ble_eq_true rfl) (Nat.le_of_ble_eq_true rfl) ?_
    exact W.iret (v := (-1)) hx hb hr (fun t ht hW => ⟨⟨(-1), (), rfl, (sp_rng_lt hr_1_0).symm, trivial⟩, hS.F ht⟩) hS.2.2 dX12_image_10
  · refine lv_if_ne (tgt := 11) hx hb dX12_image_6 (by decide) (fun c_29 => absurd (by decide) c_29) (fun _ => ?_)
    refine lv_iconst (v := (-1)) hx hb dX12_image_9 (by decide) ?_
    refine W.widen (k := 0) (n := 0) (Nat.le_of_ble_eq_true rfl) (Nat.le_of_ble_eq_true rfl) ?_
    exact W.iret (v := (-1)) hx hb hr (fun t ht hW => ⟨⟨(-1), (), rfl, (sp_rng_gt hr_1_0 hr_1_1).symm, trivial⟩, hS.F ht⟩) hS.2.2 dX12_image_10
