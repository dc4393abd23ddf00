set_option maxHeartbeats 4000000 in
set_option maxRecDepth 100000 in
theorem c_fill64 (l : Launch) (D : va_G) (cI : ClassId) (cB : ClassId) (cL : ClassId) (cZ : ClassId) (cG : ClassId) (ar : Nat) (ar_f : Nat → Int32) (x1 : Int32) (sz : Nat) (b_x1 : zB x1 (-1) 7) (s_ar_f_0 : zA ar_f 0 64 (-1) 7) : Met l yJ7_fill_53178 wsJ7_fill_53178 ({ frames := 0, cells := 0, slots := 0, locals := 0 }) (xp D [(cI, .int), (cB, .byte), (cL, .long), (cZ, .boolean), (cG, .array .int)] [(ar, .inl (cI, 64, .inl ar_f))] sz [] [.ref ar, .int x1]) (va_Qv (fun _ : Unit => True) (fun (_ : Unit) (t : State) => ∃ (narf : Nat → Int32), zA narf 0 64 (-1) 7 ∧ xB D (va_A [(ar, .inl (cI, 64, .inl ar_f))] sz) [(ar, .inl (cI, 64, .inl narf))] t) (va_A [(ar, .inl (cI, 64, .inl ar_f))] sz)) 0 0 (va_A [(ar, .inl (cI, 64, .inl ar_f))] sz) := by
  refine Met.ofW (cc := cJ7_fill_53178) (maxL := 4) (ret := none) (by decide) rfl ?_
  intro p e s m args below meth c s₁ B hml hv
  obtain ⟨rfl, hsz, hP, hK, hD0, hNw⟩ := hv
  have hx := B.exec
  have hb := B.bytes
  have hr := B.returns
  have hts := atoms_spec (ws := wsJ7_fill_53178) B.pre
  have hown : s.vm.findClass RJ7 = some m.cls := findClass_of_methodNamed B.named
  have hlocks := B.notSynchronized
  clear B
  subst hsz
  have hD := hD0.self (sz := s.heap.size)
  clear hD0 hNw
  generalize hAe : va_A [(ar, .inl (cI, 64, .inl ar_f))] s.heap.size = A at hD ⊢
  have hA : ∀ q : Nat, s.heap.size ≤ q → A q := fun q h => by rw [← hAe]; exact Or.inr h
  have hS : va_S A s.heap s.heap [] := va_S.rf
  clear hAe
  obtain ⟨H, hH⟩ : ∃ H : Heap, H = s.heap := ⟨_, rfl⟩
  obtain ⟨locs, hlocs⟩ : ∃ L : List Loc, L = [] := ⟨_, rfl⟩
  replace hP : va_P D classes [(ar, .inl (cI, 64, .inl ar_f))] H := by rw [hH]; exact hP
  replace hS : va_S A s.heap H locs := by rw [hH, hlocs]; exact hS
  rw [← hH, ← hlocs]
  clear hlocs hH
  have hl := lv_entry ([.ref ar, .int x1]) (n := 4) (Nat.le_of_ble_eq_true rfl)
  rw [lg_entry_eq]
  generalize (lg_sl ([.ref ar, .int x1]) ++ List.replicate (4 - (lg_sl ([.ref ar, .int x1])).length) Slot.unset).toArray = ls at hl ⊢
  replace hl : lv_has ls 4 [(0, .ref ar), (1, .int x1)] := hl
  refine zz_abs (R := ({ frames := 0, cells := 0, slots := 0, locals := 0 } : Room)) (fun Q up => ?_)
  refine lv_iconst (v := 0) hx hb dJ7_fill_53178_0 (by decide) ?_
  refine lv_istore_n (lv' := [(2, .int 0), (0, .ref ar), (1, .int x1)]) hx hb dJ7_fill_53178_1 rfl hl (by decide) rfl (fun ls hl => ?_)
  refine lv_aload_n hx hb dJ7_fill_53178_2 rfl (lv_at hl 1 rfl) ?_
  refine va_alen (v := 64) hx hb hK hP 0 0 rfl rfl rfl dJ7_fill_53178_3 ?_
  have j5 : ∀ (n5 : Nat) (H : Heap) (locs : List Loc) (ls : Array Slot) (v5_2 : Int32) (g5_ar : Nat → Int32), zB v5_2 0 64 → zA g5_ar 0 64 (-1) 7 → (64 + 1 - v5_2.toInt) ≤ (n5 : Int) → va_P D classes [(ar, .inl (cI, 64, .inl g5_ar))] H → va_D A [(ar, .inl (cI, 64, .inl g5_ar))] → va_S A s.heap H locs → lv_has ls 4 [(3, .int 64), (2, .int v5_2), (0, .ref ar), (1, .int x1)] → W p l e ({ frames := 0, cells := 0, slots := 0, locals := 0 } : Room) s m args below meth c H locs 0 0 Q (F0 m 5 ls []) := by
    intro n5
    induction n5 with
    | zero => intro H locs ls v5_2 g5_ar bv5_2_k5 sg5_ar_0_k5 hm5 hP hD hS hl; exact zM_u0 bv5_2_k5 hm5
    | succ n5 ih5 =>
      intro H locs ls v5_2 g5_ar bv5_2_k5 sg5_ar_0_k5 hm5 hP hD hS hl
      refine lv_iload_n hx hb dJ7_fill_53178_5 rfl (lv_at hl 1 rfl) ?_
      refine lv_iload_n hx hb dJ7_fill_53178_6 rfl (lv_at hl 0 rfl) ?_
      refine lv_icmp_ge (tgt := 20) hx hb dJ7_fill_53178_7 (by decide) (fun c7 => ?_) (fun c7 => ?_)
      · have by7t_v5_2 : zB v5_2 64 64 := zB_lev (ze c7) (show zB 64 64 64 from ⟨by decide, by decide⟩) bv5_2_k5 (by decide)
        exact up _ _ _ (W.vret hx hb hr (fun t ht hW => ⟨⟨(), rfl, trivial, ⟨g5_ar, sg5_ar_0_k5, by rw [ht]; exact hP, hD⟩⟩, hS.F ht⟩) hS.2.2 dJ7_fill_53178_20)
      · have bx7f_v5_2 : zB v5_2 0 63 := zB_ltu (zf c7) bv5_2_k5 (show zB 64 64 64 from ⟨by decide, by decide⟩) (by decide)
        refine lv_aload_n hx hb dJ7_fill_53178_10 rfl (lv_at hl 2 rfl) ?_
        refine lv_iload_n hx hb dJ7_fill_53178_11 rfl (lv_at hl 1 rfl) ?_
        refine lv_iload_n hx hb dJ7_fill_53178_12 rfl (lv_at hl 3 rfl) ?_
        refine zi_iast hx hb hK hP hD hS 0 0 rfl rfl (zB_in bx7f_v5_2 (by decide) (by decide)) dJ7_fill_53178_13 (fun H locs g13 eg13 hP hD hS => ?_)
        replace hP : va_P D classes [(ar, .inl (cI, 64, .inl g13))] H := hP
        replace hD : va_D A [(ar, .inl (cI, 64, .inl g13))] := hD
        have sg13_0 := zA_up eg13 sg5_ar_0_k5 b_x1 (by decide) (by decide)
        clear eg13
        obtain ⟨y14, by14, ry14, ey14⟩ := zi_inc (x := v5_2) (k := 1) (a := 1) (b := 64) bx7f_v5_2 (by decide) (by decide) (by decide) (by decide) (by decide)
        refine lv_iinc (v := y14) (lv' := [(2, .int y14), (3, .int 64), (0, .ref ar), (1, .int x1)]) hx hb dJ7_fill_53178_14 hl (k := 1) rfl ey14 (by decide) rfl (fun ls hl => ?_)
        refine lv_goto (tgt := 5) hx hb dJ7_fill_53178_17 (by decide) ?_
        exact ih5 H locs ls y14 g13 (zB_w by14 (by decide) (by decide)) sg13_0 (zM_us (k := 1) hm5 ry14 (by decide)) hP hD hS (lv_sub hl [1, 0, 2, 3] rfl)
  refine lv_istore_n (lv' := [(3, .int 64), (2, .int 0), (0, .ref ar), (1, .int x1)]) hx hb dJ7_fill_53178_4 rfl hl (by decide) rfl (fun ls hl => ?_)
  exact j5 65 H locs ls 0 ar_f (zB_w (show zB 0 0 0 from ⟨by decide, by decide⟩) (by decide) (by decide)) s_ar_f_0 (zM_ui (zB_w (show zB 0 0 0 from ⟨by decide, by decide⟩) (by decide) (by decide)) (by decide)) hP hD hS (lv_sub hl [0, 1, 2, 3] rfl)
set_option maxHeartbeats 4000000 in
set_option maxRecDepth 100000 in
theorem c_X8_put (l : Launch) (D : va_G) (cI : ClassId) (cB : ClassId) (cL : ClassId) (cZ : ClassId) (cG : ClassId) (TA : Nat) (x0 : Int32) (aTA : Nat → Nat) (TA_size : Int32) (TA_bytes : Nat → Int32) (sz : Nat) (b_TA_size : zB TA_size 0 1600) : Met l yX8_put wsX8_put ({ frames := 0, cells := 0, slots := 0, locals := 0 }) (xp D [(cI, .int), (cB, .byte), (cL, .long), (cZ, .boolean), (cG, .array .int)] [(TA, .inr (8, oX8 aTA TA_size)), ((aTA 0), .inl (cB, 1600, .inl TA_bytes))] sz [] [.ref TA, .int x0]) (va_Qv (fun _ : Unit => True) (fun (_ : Unit) (t : State) => ∃ (nTA_size : Int32), ∃ (nTAbytes : Nat → Int32), zB nTA_size 0 1600 ∧ xB D (va_A [(TA, .inr (8, oX8 aTA TA_size)), ((aTA 0), .inl (cB, 1600, .inl TA_bytes))] sz) [(TA, .inr (8, oX8 aTA nTA_size)), ((aTA 0), .inl (cB, 1600, .inl nTAbytes))] t) (va_A [(TA, .inr (8, oX8 aTA TA_size)), ((aTA 0), .inl (cB, 1600, .inl TA_bytes))] sz)) 0 0 (va_A [(TA, .inr (8, oX8 aTA TA_size)), ((aTA 0), .inl (cB, 1600, .inl TA_bytes))] sz) := by
  refine Met.ofW (cc := cX8_put) (maxL := 3) (ret := none) (by decide) rfl ?_
  intro p e s m args below meth c s₁ B hml hv
  obtain ⟨rfl, hsz, hP, hK, hD0, hNw⟩ := hv
  have hx := B.exec
  have hb := B.bytes
  have hr := B.returns
  have hts := atoms_spec (ws := wsX8_put) B.pre
  have hown : s.vm.findClass RX8 = some m.cls := findClass_of_methodNamed B.named
  have hlocks := B.notSynchronized
  clear B
  subst hsz
  have hD := hD0.self (sz := s.heap.size)
  clear hD0 hNw
  generalize hAe : va_A [(TA, .inr (8, oX8 aTA TA_size)), ((aTA 0), .inl (cB, 1600, .inl TA_bytes))] s.heap.size = A at hD ⊢
  have hA : ∀ q : Nat, s.heap.size ≤ q → A q := fun q h => by rw [← hAe]; exact Or.inr h
  have hS : va_S A s.heap s.heap [] := va_S.rf
  clear hAe
  obtain ⟨H, hH⟩ : ∃ H : Heap, H = s.heap := ⟨_, rfl⟩
  obtain ⟨locs, hlocs⟩ : ∃ L : List Loc, L = [] := ⟨_, rfl⟩
  replace hP : va_P D classes [(TA, .inr (8, oX8 aTA TA_size)), ((aTA 0), .inl (cB, 1600, .inl TA_bytes))] H := by rw [hH]; exact hP
  replace hS : va_S A s.heap H locs := by rw [hH, hlocs]; exact hS
  rw [← hH, ← hlocs]
  clear hlocs hH
  have hl := lv_entry ([.ref TA, .int x0]) (n := 3) (Nat.le_of_ble_eq_true rfl)
  rw [lg_entry_eq]
  generalize (lg_sl ([.ref TA, .int x0]) ++ List.replicate (3 - (lg_sl ([.ref TA, .int x0])).length) Slot.unset).toArray = ls at hl ⊢
  replace hl : lv_has ls 3 [(0, .ref TA), (1, .int x0)] := hl
  refine zz_abs (R := ({ frames := 0, cells := 0, slots := 0, locals := 0 } : Room)) (fun Q up => ?_)
  refine lv_bipush (v := 24) hx hb dX8_put_0 (by decide) ?_
  have j3 : ∀ (n3 : Nat) (H : Heap) (locs : List Loc) (ls : Array Slot) (v3_2 : Int32) (w3_TA_1 : Int32) (g3_aTA0 : Nat → Int32), zB v3_2 (-8) 24 → zB w3_TA_1 0 1600 → (v3_2.toInt - (-8) + 1) ≤ (n3 : Int) → va_P D classes [(TA, .inr (8, oX8 aTA w3_TA_1)), ((aTA 0), .inl (cB, 1600, .inl g3_aTA0))] H → va_D A [(TA, .inr (8, oX8 aTA w3_TA_1)), ((aTA 0), .inl (cB, 1600, .inl g3_aTA0))] → va_S A s.heap H locs → lv_has ls 3 [(2, .int v3_2), (0, .ref TA), (1, .int x0)] → W p l e ({ frames := 0, cells := 0, slots := 0, locals := 0 } : Room) s m args below meth c H locs 0 0 Q (F0 m 3 ls []) := by
    intro n3
    induction n3 with
    | zero => intro H locs ls v3_2 w3_TA_1 g3_aTA0 bv3_2_k3 bw3_TA_1_k3 hm3 hP hD hS hl; exact zM_d0 bv3_2_k3 hm3
    | succ n3 ih3 =>
      intro H locs ls v3_2 w3_TA_1 g3_aTA0 bv3_2_k3 bw3_TA_1_k3 hm3 hP hD hS hl
      refine lv_iload_n hx hb dX8_put_3 rfl (lv_at hl 0 rfl) ?_
      refine lv_if_lt (tgt := 46) hx hb dX8_put_4 (by decide) (fun c4 => ?_) (fun c4 => ?_)
      · have bx4t_v3_2 : zB v3_2 (-8) (-1) := zB_ltu (zl c4) bv3_2_k3 (show zB 0 0 0 from ⟨by decide, by decide⟩) (by decide)
        exact up _ _ _ (W.vret hx hb hr (fun t ht hW => ⟨⟨(), rfl, trivial, ⟨w3_TA_1, g3_aTA0, bw3_TA_1_k3, by rw [ht]; exact hP, hD⟩⟩, hS.F ht⟩) hS.2.2 dX8_put_46)
      · have by4f_v3_2 : zB v3_2 0 24 := zB_lev (zg c4) (show zB 0 0 0 from ⟨by decide, by decide⟩) bv3_2_k3 (by decide)
        refine lv_aload_n hx hb dX8_put_7 rfl (lv_at hl 1 rfl) ?_
        refine va_get (D := D) (ci := 8) (v := .int w3_TA_1) (C := RX8) (T := TX8) (N := 2) hx hb hts iw_X8_put_X8 hown hK hP 0 rfl rfl 1 (by decide) (hts (.fieldLink RX8 15 "SoldHouse$Tape" "size" "I") (List.mem_of_getElem? (i := 1) rfl)) (fun _ h9 => h9) rfl dX8_put_8 ?_
        refine lv_sipush (v := 1600) hx hb dX8_put_11 (by decide) ?_
        have j40 : ∀ (H : Heap) (locs : List Loc) (ls : Array Slot) (w40_TA_1 : Int32) (g40_aTA0 : Nat → Int32), zB w40_TA_1 1 1600 → va_P D classes [(TA, .inr (8, oX8 aTA w40_TA_1)), ((aTA 0), .inl (cB, 1600, .inl g40_aTA0))] H → va_D A [(TA, .inr (8, oX8 aTA w40_TA_1)), ((aTA 0), .inl (cB, 1600, .inl g40_aTA0))] → va_S A s.heap H locs → lv_has ls 3 [(2, .int v3_2), (0, .ref TA), (1, .int x0)] → W p l e ({ frames := 0, cells := 0, slots := 0, locals := 0 } : Room) s m args below meth c H locs 0 0 Q (F0 m 40 ls []) := by
          intro H locs ls w40_TA_1 g40_aTA0 bw40_TA_1_k40 hP hD hS hl
          obtain ⟨y40, by40, ry40, ey40⟩ := zi_inc (x := v3_2) (k := (-8)) (a := (-8)) (b := 16) by4f_v3_2 (by decide) (by decide) (by decide) (by decide) (by decide)
          refine lv_iinc (v := y40) (lv' := [(2, .int y40), (0, .ref TA), (1, .int x0)]) hx hb dX8_put_40 hl (k := 0) rfl ey40 (by decide) rfl (fun ls hl => ?_)
          refine lv_goto (tgt := 3) hx hb dX8_put_43 (by decide) ?_
          exact ih3 H locs ls y40 w40_TA_1 g40_aTA0 (zB_w by40 (by decide) (by decide)) (zB_w bw40_TA_1_k40 (by decide) (by decide)) (zM_ds (k := 8) hm3 ry40 (by decide)) hP hD hS (lv_sub hl [0, 1, 2] rfl)
        refine lv_icmp_ge (tgt := 40) hx hb dX8_put_14 (by decide) (fun c14 => ?_) (fun c14 => ?_)
        · have by14t_w3_TA_1 : zB w3_TA_1 1600 1600 := zB_lev (ze c14) (show zB 1600 1600 1600 from ⟨by decide, by decide⟩) bw3_TA_1_k3 (by decide)
          exact j40 H locs ls w3_TA_1 g3_aTA0 (zB_w by14t_w3_TA_1 (by decide) (by decide)) hP hD hS (lv_sub hl [0, 1, 2] rfl)
        · have bx14f_w3_TA_1 : zB w3_TA_1 0 1599 := zB_ltu (zf c14) bw3_TA_1_k3 (show zB 1600 1600 1600 from ⟨by decide, by decide⟩) (by decide)
          refine lv_aload_n hx hb dX8_put_17 rfl (lv_at hl 1 rfl) ?_
          refine va_get (D := D) (ci := 8) (v := .ref (aTA 0)) (C := RX8) (T := TX8) (N := 2) hx hb hts iw_X8_put_X8 hown hK hP 0 rfl rfl 0 (by decide) (hts (.fieldLink RX8 9 "SoldHouse$Tape" "bytes" "[B") (List.mem_of_getElem? (i := 2) rfl)) (fun _ h9 => h9) rfl dX8_put_18 ?_
          refine lv_aload_n hx hb dX8_put_21 rfl (lv_at hl 1 rfl) ?_
          refine va_get (D := D) (ci := 8) (v := .int w3_TA_1) (C := RX8) (T := TX8) (N := 2) hx hb hts iw_X8_put_X8 hown hK hP 0 rfl rfl 1 (by decide) (hts (.fieldLink RX8 15 "SoldHouse$Tape" "size" "I") (List.mem_of_getElem? (i := 1) rfl)) (fun _ h9 => h9) rfl dX8_put_22 ?_
          refine lv_iload_n hx hb dX8_put_25 rfl (lv_at hl 2 rfl) ?_
          refine lv_iload_n hx hb dX8_put_26 rfl (lv_at hl 0 rfl) ?_
          refine lv_ishr hx hb dX8_put_27 ?_
          refine lv_topi (fun y27 _ => ?_)
          refine lv_i2b hx hb dX8_put_28 rfl ?_
          refine lv_topi (fun y28 _ => ?_)
          refine zi_bast hx hb hK hP hD hS 1 1 rfl rfl (zB_in bx14f_w3_TA_1 (by decide) (by decide)) dX8_put_29 (fun H locs g29 eg29 hP hD hS => ?_)
          replace hP : va_P D classes [(TA, .inr (8, oX8 aTA w3_TA_1)), ((aTA 0), .inl (cB, 1600, .inl g29))] H := hP
          replace hD : va_D A [(TA, .inr (8, oX8 aTA w3_TA_1)), ((aTA 0), .inl (cB, 1600, .inl g29))] := hD
          clear eg29
          refine lv_aload_n hx hb dX8_put_30 rfl (lv_at hl 1 rfl) ?_
          refine lv_dup hx hb dX8_put_31 rfl ?_
          refine va_get (D := D) (ci := 8) (v := .int w3_TA_1) (C := RX8) (T := TX8) (N := 2) hx hb hts iw_X8_put_X8 hown hK hP 0 rfl rfl 1 (by decide) (hts (.fieldLink RX8 15 "SoldHouse$Tape" "size" "I") (List.mem_of_getElem? (i := 1) rfl)) (fun _ h9 => h9) rfl dX8_put_32 ?_
          refine lv_iconst (v := 1) hx hb dX8_put_35 (by decide) ?_
          refine lv_iadd hx hb dX8_put_36 ?_
          refine zi_top2 (P := fun y => y.toInt = w3_TA_1.toInt + 1) (a := 1) (b := 1600) (zB_add bx14f_w3_TA_1 (show zB 1 1 1 from ⟨by decide, by decide⟩) (by decide) (by decide) (by decide) (by decide)) (zR_addc bx14f_w3_TA_1 (by decide) (by decide) (by decide)) (fun y36 by36 ry36 => ?_)
          refine va_put (D := D) (ci := 8) (v := .int y36) (ty := tyX8 1) (C := RX8) (T := TX8) (N := 2) hx hb hts iw_X8_put_X8 tyX8 tyX8_ok nmX8 hown hK hP hD hS 0 rfl rfl 1 (by decide) (hts (.fieldLink RX8 15 "SoldHouse$Tape" "size" "I") (List.mem_of_getElem? (i := 1) rfl)) (fun _ h9 => h9) rfl (by decide +kernel) rfl rfl (Nat.le_of_ble_eq_true rfl) dX8_put_37 (fun H locs hP hD hS => ?_)
          replace hP : va_P D classes [(TA, .inr (8, oX8 aTA y36)), ((aTA 0), .inl (cB, 1600, .inl g29))] H := hP
          replace hD : va_D A [(TA, .inr (8, oX8 aTA y36)), ((aTA 0), .inl (cB, 1600, .inl g29))] := hD
          exact j40 H locs ls y36 g29 by36 hP hD hS (lv_sub hl [0, 1, 2] rfl)
  refine lv_istore_n (lv' := [(2, .int 24), (0, .ref TA), (1, .int x0)]) hx hb dX8_put_2 rfl hl (by decide) rfl (fun ls hl => ?_)
  exact j3 33 H locs ls 24 TA_size TA_bytes (zB_w (show zB 24 24 24 from ⟨by decide, by decide⟩) (by decide) (by decide)) b_TA_size (zM_di (zB_w (show zB 24 24 24 from ⟨by decide, by decide⟩) (by decide) (by decide)) (by decide)) hP hD hS (lv_sub hl [0, 1, 2] rfl)
set_option maxHeartbeats 4000000 in
set_option maxRecDepth 100000 in
theorem c_X0_creakingRooms (l : Launch) (D : va_G) (cI : ClassId) (cB : ClassId) (cL : ClassId) (cZ : ClassId) (cG : ClassId) (FL : Nat) (x0 : Int32) (PL : Nat) (aFL : Nat → Nat) (FL_parting : Int32) (PL_rooms : Int32) (aPL : Nat → Nat) (PL_doors : Int32) (PL_things : Int32) (FO : Nat) (PL_draw : Int32) (PL_drawTold : Int32) (PL_creaks : Nat → Int32) (b_PL_rooms : zB PL_rooms 0 8) (b_PL_doors : zB PL_doors 0 12) (b_PL_things : zB PL_things 0 6) : Met l yX0_creakingRooms wsX0_creakingRooms ({ frames := 0, cells := 0, slots := 0, locals := 0 }) (xr D [(cI, .int), (cB, .byte), (cL, .long), (cZ, .boolean), (cG, .array .int)] [(FL, .inr (0, oX0 PL aFL FL_parting)), (PL, .inr (5, oX5 FO aPL PL_rooms PL_doors PL_things PL_draw PL_drawTold)), ((aPL 2), .inl (cI, 8, .inl PL_creaks))] [.ref FL, .int x0]) (vp_Si (fun r => zB r 0 255)) 0 0 (fun _ => False) := by
  refine Met.ofW (cc := cX0_creakingRooms) (maxL := 4) (ret := (some .int)) (by decide) rfl ?_
  intro p e s m args below meth c s₁ B hml hv
  obtain ⟨rfl, hP, hK⟩ := hv
  have hx := B.exec
  have hb := B.bytes
  have hr := B.returns
  have hts := atoms_spec (ws := wsX0_creakingRooms) B.pre
  have hown : s.vm.findClass RX0 = some m.cls := findClass_of_methodNamed B.named
  have hlocks := B.notSynchronized
  clear B
  have hl := lv_entry ([.ref FL, .int x0]) (n := 4) (Nat.le_of_ble_eq_true rfl)
  rw [lg_entry_eq]
  generalize (lg_sl ([.ref FL, .int x0]) ++ List.replicate (4 - (lg_sl ([.ref FL, .int x0])).length) Slot.unset).toArray = ls at hl ⊢
  replace hl : lv_has ls 4 [(0, .ref FL), (1, .int x0)] := hl
  refine zz_abs (R := ({ frames := 0, cells := 0, slots := 0, locals := 0 } : Room)) (fun Q up => ?_)
  refine lv_iconst (v := 0) hx hb dX0_creakingRooms_0 (by decide) ?_
  refine lv_istore_n (lv' := [(2, .int 0), (0, .ref FL), (1, .int x0)]) hx hb dX0_creakingRooms_1 rfl hl (by decide) rfl (fun ls hl => ?_)
  refine lv_iconst (v := 0) hx hb dX0_creakingRooms_2 (by decide) ?_
  have j4 : ∀ (n4 : Nat) (ls : Array Slot) (v4_3 : Int32) (v4_2 : Int32), zB v4_3 0 8 → zB v4_2 0 255 → (8 + 1 - v4_3.toInt) ≤ (n4 : Int) → lv_has ls 4 [(3, .int v4_3), (2, .int v4_2), (0, .ref FL), (1, .int x0)] → W p l e ({ frames := 0, cells := 0, slots := 0, locals := 0 } : Room) s m args below meth c s.heap [] 0 0 Q (F0 m 4 ls []) := by
    intro n4
    induction n4 with
    | zero => intro ls v4_3 v4_2 bv4_3_k4 bv4_2_k4 hm4 hl; exact zM_u0 bv4_3_k4 hm4
    | succ n4 ih4 =>
      intro ls v4_3 v4_2 bv4_3_k4 bv4_2_k4 hm4 hl
      refine lv_iload_n hx hb dX0_creakingRooms_4 rfl (lv_at hl 0 rfl) ?_
      refine lv_aload_n hx hb dX0_creakingRooms_5 rfl (lv_at hl 2 rfl) ?_
      refine va_get (D := D) (ci := 0) (v := .ref PL) (C := RX0) (T := TX0) (N := 5) hx hb hts iw_X0_creakingRooms_X0 hown hK hP 0 rfl rfl 0 (by decide) (hts (.fieldLink RX0 21 "SoldHouse$Floor" "plan" "LSoldHouse$Plan;") (List.mem_of_getElem? (i := 1) rfl)) (fun _ h9 => h9) rfl dX0_creakingRooms_6 ?_
      refine va_get (D := D) (ci := 5) (v := .int PL_rooms) (C := RX5) (T := TX5) (N := 16) hx hb hts iw_X0_creakingRooms_X5 hown hK hP 1 rfl rfl 0 (by decide) (hts (.fieldLink RX0 43 "SoldHouse$Plan" "rooms" "I") (List.mem_of_getElem? (i := 2) rfl)) (fun _ h9 => h9) rfl dX0_creakingRooms_9 ?_
      refine lv_icmp_ge (tgt := 40) hx hb dX0_creakingRooms_12 (by decide) (fun c12 => ?_) (fun c12 => ?_)
      · refine lv_iload_n hx hb dX0_creakingRooms_40 rfl (lv_at hl 1 rfl) ?_
        exact up _ _ _ (W.iret (v := v4_2) hx hb hr (fun t ht hW => ⟨v4_2, rfl, bv4_2_k4, ht⟩) (fun q hq => by cases hq) dX0_creakingRooms_41)
      · have bx12f_v4_3 : zB v4_3 0 7 := zB_ltu (zf c12) bv4_3_k4 b_PL_rooms (by decide)
        have by12f_PL_rooms : zB PL_rooms 1 8 := zB_ltv (zf c12) bx12f_v4_3 b_PL_rooms (by decide)
        refine lv_aload_n hx hb dX0_creakingRooms_15 rfl (lv_at hl 2 rfl) ?_
        refine va_get (D := D) (ci := 0) (v := .ref PL) (C := RX0) (T := TX0) (N := 5) hx hb hts iw_X0_creakingRooms_X0 hown hK hP 0 rfl rfl 0 (by decide) (hts (.fieldLink RX0 21 "SoldHouse$Floor" "plan" "LSoldHouse$Plan;") (List.mem_of_getElem? (i := 1) rfl)) (fun _ h9 => h9) rfl dX0_creakingRooms_16 ?_
        refine va_get (D := D) (ci := 5) (v := .ref (aPL 2)) (C := RX5) (T := TX5) (N := 16) hx hb hts iw_X0_creakingRooms_X5 hown hK hP 1 rfl rfl 2 (by decide) (hts (.fieldLink RX0 88 "SoldHouse$Plan" "creaks" "[I") (List.mem_of_getElem? (i := 3) rfl)) (fun _ h9 => h9) rfl dX0_creakingRooms_19 ?_
        refine lv_iload_n hx hb dX0_creakingRooms_22 rfl (lv_at hl 0 rfl) ?_
        refine va_iald hx hb hK hP 2 0 rfl rfl (zB_in bx12f_v4_3 (by decide) (by decide)) dX0_creakingRooms_23 ?_
        refine lv_topi (fun y23 _ => ?_)
        refine lv_iload_n hx hb dX0_creakingRooms_24 rfl (lv_at hl 3 rfl) ?_
        have j34 : ∀ (ls : Array Slot) (v34_2 : Int32), zB v34_2 0 255 → lv_has ls 4 [(3, .int v4_3), (2, .int v34_2), (0, .ref FL), (1, .int x0)] → W p l e ({ frames := 0, cells := 0, slots := 0, locals := 0 } : Room) s m args below meth c s.heap [] 0 0 Q (F0 m 34 ls []) := by
          intro ls v34_2 bv34_2_k34 hl
          obtain ⟨y34, by34, ry34, ey34⟩ := zi_inc (x := v4_3) (k := 1) (a := 1) (b := 8) bx12f_v4_3 (by decide) (by decide) (by decide) (by decide) (by decide)
          refine lv_iinc (v := y34) (lv' := [(3, .int y34), (2, .int v34_2), (0, .ref FL), (1, .int x0)]) hx hb dX0_creakingRooms_34 hl (k := 0) rfl ey34 (by decide) rfl (fun ls hl => ?_)
          refine lv_goto (tgt := 4) hx hb dX0_creakingRooms_37 (by decide) ?_
          exact ih4 ls y34 v34_2 (zB_w by34 (by decide) (by decide)) bv34_2_k34 (zM_us (k := 1) hm4 ry34 (by decide)) (lv_sub hl [0, 1, 2, 3] rfl)
        refine lv_icmp_lt (tgt := 34) hx hb dX0_creakingRooms_25 (by decide) (fun c25 => ?_) (fun c25 => ?_)
        · have bx25t_y23 : zB y23 (-2147483648) 2147483646 := zB_ltu (zl c25) (zB_top y23) (zB_top x0) (by decide)
          have by25t_x0 : zB x0 (-2147483647) 2147483647 := zB_ltv (zl c25) bx25t_y23 (zB_top x0) (by decide)
          exact j34 ls v4_2 bv4_2_k4 (lv_sub hl [0, 1, 2, 3] rfl)
        · refine lv_iload_n hx hb dX0_creakingRooms_28 rfl (lv_at hl 1 rfl) ?_
          refine lv_iconst (v := 1) hx hb dX0_creakingRooms_29 (by decide) ?_
          refine lv_iload_n hx hb dX0_creakingRooms_30 rfl (lv_at hl 0 rfl) ?_
          refine lv_ishl hx hb dX0_creakingRooms_31 ?_
          refine zi_top (a := 1) (b := 128) (zB_shl1 bx12f_v4_3 (by decide) (by decide) (by decide) (by decide)) (fun y31 by31 => ?_)
          refine lv_ior hx hb dX0_creakingRooms_32 ?_
          refine zi_top (a := 1) (b := 255) (zB_or 8 bv4_2_k4 by31 (by decide) (by decide) (by decide) (by decide) (by decide) (by decide) (by decide)) (fun y32 by32 => ?_)
          refine lv_istore_n (lv' := [(2, .int y32), (3, .int v4_3), (0, .ref FL), (1, .int x0)]) hx hb dX0_creakingRooms_33 rfl hl (by decide) rfl (fun ls hl => ?_)
          exact j34 ls y32 (zB_w by32 (by decide) (by decide)) (lv_sub hl [1, 0, 2, 3] rfl)
  refine lv_istore_n (lv' := [(3, .int 0), (2, .int 0), (0, .ref FL), (1, .int x0)]) hx hb dX0_creakingRooms_3 rfl hl (by decide) rfl (fun ls hl => ?_)
  exact j4 9 ls 0 0 (zB_w (show zB 0 0 0 from ⟨by decide, by decide⟩) (by decide) (by decide)) (zB_w (show zB 0 0 0 from ⟨by decide, by decide⟩) (by decide) (by decide)) (zM_ui (zB_w (show zB 0 0 0 from ⟨by decide, by decide⟩) (by decide) (by decide)) (by decide)) (lv_sub hl [0, 1, 2, 3] rfl)
set_option maxHeartbeats 4000000 in
set_option maxRecDepth 100000 in
theorem c_X0_behindDoors (l : Launch) (D : va_G) (cI : ClassId) (cB : ClassId) (cL : ClassId) (cZ : ClassId) (cG : ClassId) (FL : Nat) (x0 : Int32) (PL : Nat) (aFL : Nat → Nat) (FL_parting : Int32) (PL_rooms : Int32) (aPL : Nat → Nat) (PL_doors : Int32) (PL_things : Int32) (FO : Nat) (PL_draw : Int32) (PL_drawTold : Int32) (FL_next : Nat → Int32) (b_PL_rooms : zB PL_rooms 0 8) (b_PL_doors : zB PL_doors 0 12) (b_PL_things : zB PL_things 0 6) : Met l yX0_behindDoors wsX0_behindDoors ({ frames := 0, cells := 0, slots := 0, locals := 0 }) (xr D [(cI, .int), (cB, .byte), (cL, .long), (cZ, .boolean), (cG, .array .int)] [(FL, .inr (0, oX0 PL aFL FL_parting)), (PL, .inr (5, oX5 FO aPL PL_rooms PL_doors PL_things PL_draw PL_drawTold)), ((aFL 1), .inl (cI, 8, .inl FL_next))] [.ref FL, .int x0]) (vp_Si (fun r => True)) 0 0 (fun _ => False) := by
  refine Met.ofW (cc := cX0_behindDoors) (maxL := 4) (ret := (some .int)) (by decide) rfl ?_
  intro p e s m args below meth c s₁ B hml hv
  obtain ⟨rfl, hP, hK⟩ := hv
  have hx := B.exec
  have hb := B.bytes
  have hr := B.returns
  have hts := atoms_spec (ws := wsX0_behindDoors) B.pre
  have hown : s.vm.findClass RX0 = some m.cls := findClass_of_methodNamed B.named
  have hlocks := B.notSynchronized
  clear B
  have hl := lv_entry ([.ref FL, .int x0]) (n := 4) (Nat.le_of_ble_eq_true rfl)
  rw [lg_entry_eq]
  generalize (lg_sl ([.ref FL, .int x0]) ++ List.replicate (4 - (lg_sl ([.ref FL, .int x0])).length) Slot.unset).toArray = ls at hl ⊢
  replace hl : lv_has ls 4 [(0, .ref FL), (1, .int x0)] := hl
  refine zz_abs (R := ({ frames := 0, cells := 0, slots := 0, locals := 0 } : Room)) (fun Q up => ?_)
  refine lv_iconst (v := 0) hx hb dX0_behindDoors_0 (by decide) ?_
  refine lv_istore_n (lv' := [(2, .int 0), (0, .ref FL), (1, .int x0)]) hx hb dX0_behindDoors_1 rfl hl (by decide) rfl (fun ls hl => ?_)
  refine lv_iconst (v := 0) hx hb dX0_behindDoors_2 (by decide) ?_
  have j4 : ∀ (n4 : Nat) (ls : Array Slot) (v4_3 : Int32) (v4_2 : Int32), zB v4_3 0 8 → (8 + 1 - v4_3.toInt) ≤ (n4 : Int) → lv_has ls 4 [(3, .int v4_3), (2, .int v4_2), (0, .ref FL), (1, .int x0)] → W p l e ({ frames := 0, cells := 0, slots := 0, locals := 0 } : Room) s m args below meth c s.heap [] 0 0 Q (F0 m 4 ls []) := by
    intro n4
    induction n4 with
    | zero => intro ls v4_3 v4_2 bv4_3_k4 hm4 hl; exact zM_u0 bv4_3_k4 hm4
    | succ n4 ih4 =>
      intro ls v4_3 v4_2 bv4_3_k4 hm4 hl
      refine lv_iload_n hx hb dX0_behindDoors_4 rfl (lv_at hl 0 rfl) ?_
      refine lv_aload_n hx hb dX0_behindDoors_5 rfl (lv_at hl 2 rfl) ?_
      refine va_get (D := D) (ci := 0) (v := .ref PL) (C := RX0) (T := TX0) (N := 5) hx hb hts iw_X0_behindDoors_X0 hown hK hP 0 rfl rfl 0 (by decide) (hts (.fieldLink RX0 21 "SoldHouse$Floor" "plan" "LSoldHouse$Plan;") (List.mem_of_getElem? (i := 1) rfl)) (fun _ h9 => h9) rfl dX0_behindDoors_6 ?_
      refine va_get (D := D) (ci := 5) (v := .int PL_rooms) (C := RX5) (T := TX5) (N := 16) hx hb hts iw_X0_behindDoors_X5 hown hK hP 1 rfl rfl 0 (by decide) (hts (.fieldLink RX0 43 "SoldHouse$Plan" "rooms" "I") (List.mem_of_getElem? (i := 2) rfl)) (fun _ h9 => h9) rfl dX0_behindDoors_9 ?_
      refine lv_icmp_ge (tgt := 39) hx hb dX0_behindDoors_12 (by decide) (fun c12 => ?_) (fun c12 => ?_)
      · refine lv_iload_n hx hb dX0_behindDoors_39 rfl (lv_at hl 1 rfl) ?_
        exact up _ _ _ (W.iret (v := v4_2) hx hb hr (fun t ht hW => ⟨v4_2, rfl, trivial, ht⟩) (fun q hq => by cases hq) dX0_behindDoors_40)
      · have bx12f_v4_3 : zB v4_3 0 7 := zB_ltu (zf c12) bv4_3_k4 b_PL_rooms (by decide)
        have by12f_PL_rooms : zB PL_rooms 1 8 := zB_ltv (zf c12) bx12f_v4_3 b_PL_rooms (by decide)
        refine lv_iload_n hx hb dX0_behindDoors_15 rfl (lv_at hl 3 rfl) ?_
        refine lv_iload_n hx hb dX0_behindDoors_16 rfl (lv_at hl 0 rfl) ?_
        refine lv_ishr hx hb dX0_behindDoors_17 ?_
        refine lv_topi (fun y17 _ => ?_)
        refine lv_iconst (v := 1) hx hb dX0_behindDoors_18 (by decide) ?_
        refine lv_iand hx hb dX0_behindDoors_19 ?_
        refine zi_top (a := 0) (b := 1) (zB_andr (show zB 1 1 1 from ⟨by decide, by decide⟩) (by decide)) (fun y19 by19 => ?_)
        refine lv_iconst (v := 1) hx hb dX0_behindDoors_20 (by decide) ?_
        have j33 : ∀ (ls : Array Slot) (v33_2 : Int32), lv_has ls 4 [(3, .int v4_3), (2, .int v33_2), (0, .ref FL), (1, .int x0)] → W p l e ({ frames := 0, cells := 0, slots := 0, locals := 0 } : Room) s m args below meth c s.heap [] 0 0 Q (F0 m 33 ls []) := by
          intro ls v33_2 hl
          obtain ⟨y33, by33, ry33, ey33⟩ := zi_inc (x := v4_3) (k := 1) (a := 1) (b := 8) bx12f_v4_3 (by decide) (by decide) (by decide) (by decide) (by decide)
          refine lv_iinc (v := y33) (lv' := [(3, .int y33), (2, .int v33_2), (0, .ref FL), (1, .int x0)]) hx hb dX0_behindDoors_33 hl (k := 0) rfl ey33 (by decide) rfl (fun ls hl => ?_)
          refine lv_goto (tgt := 4) hx hb dX0_behindDoors_36 (by decide) ?_
          exact ih4 ls y33 v33_2 (zB_w by33 (by decide) (by decide)) (zM_us (k := 1) hm4 ry33 (by decide)) (lv_sub hl [0, 1, 2, 3] rfl)
        refine lv_icmp_ne (tgt := 33) hx hb dX0_behindDoors_21 (by decide) (fun c21 => ?_) (fun c21 => ?_)
        · have bn21t_y19 : zB y19 0 0 := zB_neH c21 by19 (show zB 1 1 1 from ⟨by decide, by decide⟩) (by decide)
          exact j33 ls v4_2 (lv_sub hl [0, 1, 2, 3] rfl)
        · have be21f_y19 : zB y19 1 1 := zB_eq c21 by19 (show zB 1 1 1 from ⟨by decide, by decide⟩) (by decide) (by decide)
          refine lv_iload_n hx hb dX0_behindDoors_24 rfl (lv_at hl 1 rfl) ?_
          refine lv_aload_n hx hb dX0_behindDoors_25 rfl (lv_at hl 2 rfl) ?_
          refine va_get (D := D) (ci := 0) (v := .ref (aFL 1)) (C := RX0) (T := TX0) (N := 5) hx hb hts iw_X0_behindDoors_X0 hown hK hP 0 rfl rfl 1 (by decide) (hts (.fieldLink RX0 9 "SoldHouse$Floor" "next" "[I") (List.mem_of_getElem? (i := 3) rfl)) (fun _ h9 => h9) rfl dX0_behindDoors_26 ?_
          refine lv_iload_n hx hb dX0_behindDoors_29 rfl (lv_at hl 0 rfl) ?_
          refine va_iald hx hb hK hP 2 0 rfl rfl (zB_in bx12f_v4_3 (by decide) (by decide)) dX0_behindDoors_30 ?_
          refine lv_topi (fun y30 _ => ?_)
          refine lv_ior hx hb dX0_behindDoors_31 ?_
          refine lv_topi (fun y31 _ => ?_)
          refine lv_istore_n (lv' := [(2, .int y31), (3, .int v4_3), (0, .ref FL), (1, .int x0)]) hx hb dX0_behindDoors_32 rfl hl (by decide) rfl (fun ls hl => ?_)
          exact j33 ls y31 (lv_sub hl [1, 0, 2, 3] rfl)
  refine lv_istore_n (lv' := [(3, .int 0), (2, .int 0), (0, .ref FL), (1, .int x0)]) hx hb dX0_behindDoors_3 rfl hl (by decide) rfl (fun ls hl => ?_)
  exact j4 9 ls 0 0 (zB_w (show zB 0 0 0 from ⟨by decide, by decide⟩) (by decide) (by decide)) (zM_ui (zB_w (show zB 0 0 0 from ⟨by decide, by decide⟩) (by decide) (by decide)) (by decide)) (lv_sub hl [0, 1, 2, 3] rfl)
set_option maxHeartbeats 4000000 in
set_option maxRecDepth 100000 in
theorem c_X0_reach (l : Launch) (D : va_G) (cI : ClassId) (cB : ClassId) (cL : ClassId) (cZ : ClassId) (cG : ClassId) (FL : Nat) (x0 : Int32) (x1 : Int32) (PL : Nat) (aFL : Nat → Nat) (FL_parting : Int32) (PL_rooms : Int32) (aPL : Nat → Nat) (PL_doors : Int32) (PL_things : Int32) (FO : Nat) (PL_draw : Int32) (PL_drawTold : Int32) (FL_next : Nat → Int32) (b_PL_rooms : zB PL_rooms 0 8) (b_PL_doors : zB PL_doors 0 12) (b_PL_things : zB PL_things 0 6) : Met l yX0_reach wsX0_reach ({ frames := 1, cells := 0, slots := 0, locals := 23 }) (xr D [(cI, .int), (cB, .byte), (cL, .long), (cZ, .boolean), (cG, .array .int)] [(FL, .inr (0, oX0 PL aFL FL_parting)), (PL, .inr (5, oX5 FO aPL PL_rooms PL_doors PL_things PL_draw PL_drawTold)), ((aFL 1), .inl (cI, 8, .inl FL_next))] [.ref FL, .int x0, .int x1]) (vp_Si (fun r => True)) 0 0 (fun _ => False) := by
  refine Met.ofW (cc := cX0_reach) (maxL := 5) (ret := (some .int)) (by decide) rfl ?_
  intro p e s m args below meth c s₁ B hml hv
  obtain ⟨rfl, hP, hK⟩ := hv
  have hx := B.exec
  have hb := B.bytes
  have hr := B.returns
  have hts := atoms_spec (ws := wsX0_reach) B.pre
  have hown : s.vm.findClass RX0 = some m.cls := findClass_of_methodNamed B.named
  have hlocks := B.notSynchronized
  clear B
  have hl := lv_entry ([.ref FL, .int x0, .int x1]) (n := 5) (Nat.le_of_ble_eq_true rfl)
  rw [lg_entry_eq]
  generalize (lg_sl ([.ref FL, .int x0, .int x1]) ++ List.replicate (5 - (lg_sl ([.ref FL, .int x0, .int x1])).length) Slot.unset).toArray = ls at hl ⊢
  replace hl : lv_has ls 5 [(0, .ref FL), (1, .int x0), (2, .int x1)] := hl
  refine zz_abs (R := ({ frames := 1, cells := 0, slots := 0, locals := 23 } : Room)) (fun Q up => ?_)
  refine lv_iconst (v := 1) hx hb dX0_reach_0 (by decide) ?_
  refine lv_iload_n hx hb dX0_reach_1 rfl (lv_at hl 1 rfl) ?_
  refine lv_ishl hx hb dX0_reach_2 ?_
  refine lv_topi (fun y2 _ => ?_)
  refine lv_istore_n (lv' := [(3, .int y2), (0, .ref FL), (1, .int x0), (2, .int x1)]) hx hb dX0_reach_3 rfl hl (by decide) rfl (fun ls hl => ?_)
  refine lv_iconst (v := 0) hx hb dX0_reach_4 (by decide) ?_
  have j7 : ∀ (n7 : Nat) (ls : Array Slot) (v7_4 : Int32) (v7_3 : Int32), zB v7_4 0 8 → (8 + 1 - v7_4.toInt) ≤ (n7 : Int) → lv_has ls 5 [(4, .int v7_4), (3, .int v7_3), (0, .ref FL), (1, .int x0), (2, .int x1)] → W p l e ({ frames := 1, cells := 0, slots := 0, locals := 23 } : Room) s m args below meth c s.heap [] 0 0 Q (F0 m 7 ls []) := by
    intro n7
    induction n7 with
    | zero => intro ls v7_4 v7_3 bv7_4_k7 hm7 hl; exact zM_u0 bv7_4_k7 hm7
    | succ n7 ih7 =>
      intro ls v7_4 v7_3 bv7_4_k7 hm7 hl
      refine lv_iload hx hb dX0_reach_7 (lv_at hl 0 rfl) ?_
      refine lv_bipush (v := 8) hx hb dX0_reach_9 (by decide) ?_
      refine lv_icmp_ge (tgt := 30) hx hb dX0_reach_11 (by decide) (fun c11 => ?_) (fun c11 => ?_)
      · have by11t_v7_4 : zB v7_4 8 8 := zB_lev (ze c11) (show zB 8 8 8 from ⟨by decide, by decide⟩) bv7_4_k7 (by decide)
        refine lv_iload_n hx hb dX0_reach_30 rfl (lv_at hl 1 rfl) ?_
        exact up _ _ _ (W.iret (v := v7_3) hx hb hr (fun t ht hW => ⟨v7_3, rfl, trivial, ht⟩) (fun q hq => by cases hq) dX0_reach_31)
      · have bx11f_v7_4 : zB v7_4 0 7 := zB_ltu (zf c11) bv7_4_k7 (show zB 8 8 8 from ⟨by decide, by decide⟩) (by decide)
        refine lv_iload_n hx hb dX0_reach_14 rfl (lv_at hl 1 rfl) ?_
        refine lv_aload_n hx hb dX0_reach_15 rfl (lv_at hl 2 rfl) ?_
        refine lv_iload_n hx hb dX0_reach_16 rfl (lv_at hl 1 rfl) ?_
        have hPc := hP.sub (ws' := [(FL, .inr (0, oX0 PL aFL FL_parting)), (PL, .inr (5, oX5 FO aPL PL_rooms PL_doors PL_things PL_draw PL_drawTold)), ((aFL 1), .inl (cI, 8, .inl FL_next))]) [0, 1, 2] rfl
        refine vp_callSi (va_runV (As := [.int v7_3]) (rest := [.int v7_3]) ⟨hx, hb, hml, hown, hts⟩ (c_X0_behindDoors l D cI cB cL cZ cG FL v7_3 PL aFL FL_parting PL_rooms aPL PL_doors PL_things FO PL_draw PL_drawTold FL_next b_PL_rooms b_PL_doors b_PL_things) (cwV 1 hts gX0_reach_X0_behindDoors rfl rfl rfl (by decide +kernel) ⟨Nat.le_of_ble_eq_true rfl, Nat.le_of_ble_eq_true rfl⟩) ⟨xr_blind, va_recv hK hP (ci := 0) (q0 := 0) rfl rfl, fun U hU hW => xr_mk hU hW hPc hK⟩ rfl rfl hl.1 rfl (lv_room (Nat.le_of_ble_eq_true rfl)) dX0_reach_17 ⟨Nat.le_of_ble_eq_true rfl, Nat.le_of_ble_eq_true rfl⟩).run (fun r17 hr17 => ?_)
        clear hPc
        clear hr17
        refine lv_iload_n hx hb dX0_reach_20 rfl (lv_at hl 4 rfl) ?_
        refine lv_iand hx hb dX0_reach_21 ?_
        refine lv_topi (fun y21 _ => ?_)
        refine lv_ior hx hb dX0_reach_22 ?_
        refine lv_topi (fun y22 _ => ?_)
        refine lv_istore_n (lv' := [(3, .int y22), (4, .int v7_4), (0, .ref FL), (1, .int x0), (2, .int x1)]) hx hb dX0_reach_23 rfl hl (by decide) rfl (fun ls hl => ?_)
        obtain ⟨y24, by24, ry24, ey24⟩ := zi_inc (x := v7_4) (k := 1) (a := 1) (b := 8) bx11f_v7_4 (by decide) (by decide) (by decide) (by decide) (by decide)
        refine lv_iinc (v := y24) (lv' := [(4, .int y24), (3, .int y22), (0, .ref FL), (1, .int x0), (2, .int x1)]) hx hb dX0_reach_24 hl (k := 1) rfl ey24 (by decide) rfl (fun ls hl => ?_)
        refine lv_goto (tgt := 7) hx hb dX0_reach_27 (by decide) ?_
        exact ih7 ls y24 y22 (zB_w by24 (by decide) (by decide)) (zM_us (k := 1) hm7 ry24 (by decide)) (lv_sub hl [0, 1, 2, 3, 4] rfl)
  refine lv_istore (lv' := [(4, .int 0), (3, .int y2), (0, .ref FL), (1, .int x0), (2, .int x1)]) hx hb dX0_reach_5 hl (by decide) rfl (fun ls hl => ?_)
  exact j7 9 ls 0 y2 (zB_w (show zB 0 0 0 from ⟨by decide, by decide⟩) (by decide) (by decide)) (zM_ui (zB_w (show zB 0 0 0 from ⟨by decide, by decide⟩) (by decide) (by decide)) (by decide)) (lv_sub hl [0, 1, 2, 3, 4] rfl)
set_option maxHeartbeats 4000000 in
set_option maxRecDepth 100000 in
theorem c_X1_clear (l : Launch) (D : va_G) (cI : ClassId) (cB : ClassId) (cL : ClassId) (cZ : ClassId) (cG : ClassId) (FO : Nat) (aFO : Nat → Nat) (FO_size : Int32) (FO_units : Int32) (FO_told : Int32) (sz : Nat) (b_FO_size : zB FO_size 0 400) : Met l yX1_clear wsX1_clear ({ frames := 0, cells := 0, slots := 0, locals := 0 }) (xp D [(cI, .int), (cB, .byte), (cL, .long), (cZ, .boolean), (cG, .array .int)] [(FO, .inr (1, oX1 aFO FO_size FO_units FO_told))] sz [] [.ref FO]) (va_Qv (fun _ : Unit => True) (fun (_ : Unit) (t : State) => ∃ (nFO_size : Int32), ∃ (nFO_units : Int32), ∃ (nFO_told : Int32), zB nFO_size 0 0 ∧ zB nFO_units 0 0 ∧ zB nFO_told 0 0 ∧ xB D (va_A [(FO, .inr (1, oX1 aFO FO_size FO_units FO_told))] sz) [(FO, .inr (1, oX1 aFO nFO_size nFO_units nFO_told))] t) (va_A [(FO, .inr (1, oX1 aFO FO_size FO_units FO_told))] sz)) 0 0 (va_A [(FO, .inr (1, oX1 aFO FO_size FO_units FO_told))] sz) := by
  refine Met.ofW (cc := cX1_clear) (maxL := 1) (ret := none) (by decide) rfl ?_
  intro p e s m args below meth c s₁ B hml hv
  obtain ⟨rfl, hsz, hP, hK, hD0, hNw⟩ := hv
  have hx := B.exec
  have hb := B.bytes
  have hr := B.returns
  have hts := atoms_spec (ws := wsX1_clear) B.pre
  have hown : s.vm.findClass RX1 = some m.cls := findClass_of_methodNamed B.named
  have hlocks := B.notSynchronized
  clear B
  subst hsz
  have hD := hD0.self (sz := s.heap.size)
  clear hD0 hNw
  generalize hAe : va_A [(FO, .inr (1, oX1 aFO FO_size FO_units FO_told))] s.heap.size = A at hD ⊢
  have hA : ∀ q : Nat, s.heap.size ≤ q → A q := fun q h => by rw [← hAe]; exact Or.inr h
  have hS : va_S A s.heap s.heap [] := va_S.rf
  clear hAe
  obtain ⟨H, hH⟩ : ∃ H : Heap, H = s.heap := ⟨_, rfl⟩
  obtain ⟨locs, hlocs⟩ : ∃ L : List Loc, L = [] := ⟨_, rfl⟩
  replace hP : va_P D classes [(FO, .inr (1, oX1 aFO FO_size FO_units FO_told))] H := by rw [hH]; exact hP
  replace hS : va_S A s.heap H locs := by rw [hH, hlocs]; exact hS
  rw [← hH, ← hlocs]
  clear hlocs hH
  have hl := lv_entry ([.ref FO]) (n := 1) (Nat.le_of_ble_eq_true rfl)
  rw [lg_entry_eq]
  generalize (lg_sl ([.ref FO]) ++ List.replicate (1 - (lg_sl ([.ref FO])).length) Slot.unset).toArray = ls at hl ⊢
  replace hl : lv_has ls 1 [(0, .ref FO)] := hl
  refine lv_aload_n hx hb dX1_clear_0 rfl (lv_at hl 0 rfl) ?_
  refine lv_iconst (v := 0) hx hb dX1_clear_1 (by decide) ?_
  refine va_put (D := D) (ci := 1) (v := .int 0) (ty := tyX1 3) (C := RX1) (T := TX1) (N := 6) hx hb hts iw_X1_clear_X1 tyX1 tyX1_ok nmX1 hown hK hP hD hS 0 rfl rfl 3 (by decide) (hts (.fieldLink RX1 19 "SoldHouse$Formula" "size" "I") (List.mem_of_getElem? (i := 1) rfl)) (fun _ h9 => h9) rfl (by decide +kernel) rfl rfl (Nat.le_of_ble_eq_true rfl) dX1_clear_2 (fun H locs hP hD hS => ?_)
  replace hP : va_P D classes [(FO, .inr (1, oX1 aFO 0 FO_units FO_told))] H := hP
  replace hD : va_D A [(FO, .inr (1, oX1 aFO 0 FO_units FO_told))] := hD
  refine lv_aload_n hx hb dX1_clear_5 rfl (lv_at hl 0 rfl) ?_
  refine lv_iconst (v := 0) hx hb dX1_clear_6 (by decide) ?_
  refine va_put (D := D) (ci := 1) (v := .int 0) (ty := tyX1 4) (C := RX1) (T := TX1) (N := 6) hx hb hts iw_X1_clear_X1 tyX1 tyX1_ok nmX1 hown hK hP hD hS 0 rfl rfl 4 (by decide) (hts (.fieldLink RX1 23 "SoldHouse$Formula" "units" "I") (List.mem_of_getElem? (i := 2) rfl)) (fun _ h9 => h9) rfl (by decide +kernel) rfl rfl (Nat.le_of_ble_eq_true rfl) dX1_clear_7 (fun H locs hP hD hS => ?_)
  replace hP : va_P D classes [(FO, .inr (1, oX1 aFO 0 0 FO_told))] H := hP
  replace hD : va_D A [(FO, .inr (1, oX1 aFO 0 0 FO_told))] := hD
  refine lv_aload_n hx hb dX1_clear_10 rfl (lv_at hl 0 rfl) ?_
  refine lv_iconst (v := 0) hx hb dX1_clear_11 (by decide) ?_
  refine va_put (D := D) (ci := 1) (v := .int 0) (ty := tyX1 5) (C := RX1) (T := TX1) (N := 6) hx hb hts iw_X1_clear_X1 tyX1 tyX1_ok nmX1 hown hK hP hD hS 0 rfl rfl 5 (by decide) (hts (.fieldLink RX1 26 "SoldHouse$Formula" "told" "Z") (List.mem_of_getElem? (i := 3) rfl)) (fun _ h9 => h9) rfl (by decide +kernel) rfl rfl (Nat.le_of_ble_eq_true rfl) dX1_clear_12 (fun H locs hP hD hS => ?_)
  replace hP : va_P D classes [(FO, .inr (1, oX1 aFO 0 0 0))] H := hP
  replace hD : va_D A [(FO, .inr (1, oX1 aFO 0 0 0))] := hD
  exact W.vret hx hb hr (fun t ht hW => ⟨⟨(), rfl, trivial, ⟨0, 0, 0, (show zB 0 0 0 from ⟨by decide, by decide⟩), (show zB 0 0 0 from ⟨by decide, by decide⟩), (show zB 0 0 0 from ⟨by decide, by decide⟩), by rw [ht]; exact hP, hD⟩⟩, hS.F ht⟩) hS.2.2 dX1_clear_15
set_option maxHeartbeats 4000000 in
set_option maxRecDepth 100000 in
theorem c_X5_clear (l : Launch) (D : va_G) (cI : ClassId) (cB : ClassId) (cL : ClassId) (cZ : ClassId) (cG : ClassId) (PL : Nat) (PL_rooms : Int32) (aPL : Nat → Nat) (PL_doors : Int32) (PL_things : Int32) (FO : Nat) (PL_draw : Int32) (PL_drawTold : Int32) (aFO : Nat → Nat) (FO_size : Int32) (FO_units : Int32) (FO_told : Int32) (sz : Nat) (b_PL_rooms : zB PL_rooms 0 8) (b_PL_doors : zB PL_doors 0 12) (b_PL_things : zB PL_things 0 6) (b_FO_size : zB FO_size 0 400) : Met l yX5_clear wsX5_clear ({ frames := 1, cells := 0, slots := 0, locals := 20 }) (xp D [(cI, .int), (cB, .byte), (cL, .long), (cZ, .boolean), (cG, .array .int)] [(PL, .inr (5, oX5 FO aPL PL_rooms PL_doors PL_things PL_draw PL_drawTold)), (FO, .inr (1, oX1 aFO FO_size FO_units FO_told))] sz [] [.ref PL]) (va_Qv (fun _ : Unit => True) (fun (_ : Unit) (t : State) => ∃ (nPL_rooms : Int32), ∃ (nPL_doors : Int32), ∃ (nPL_things : Int32), ∃ (nPL_draw : Int32), ∃ (nPL_drawTold : Int32), ∃ (nFO_size : Int32), ∃ (nFO_units : Int32), ∃ (nFO_told : Int32), zB nPL_rooms 0 0 ∧ zB nPL_doors 0 0 ∧ zB nPL_things 0 0 ∧ zB nPL_draw 0 0 ∧ zB nPL_drawTold 0 0 ∧ zB nFO_size 0 0 ∧ zB nFO_units 0 0 ∧ zB nFO_told 0 0 ∧ xB D (va_A [(PL, .inr (5, oX5 FO aPL PL_rooms PL_doors PL_things PL_draw PL_drawTold)), (FO, .inr (1, oX1 aFO FO_size FO_units FO_told))] sz) [(PL, .inr (5, oX5 FO aPL nPL_rooms nPL_doors nPL_things nPL_draw nPL_drawTold)), (FO, .inr (1, oX1 aFO nFO_size nFO_units nFO_told))] t) (va_A [(PL, .inr (5, oX5 FO aPL PL_rooms PL_doors PL_things PL_draw PL_drawTold)), (FO, .inr (1, oX1 aFO FO_size FO_units FO_told))] sz)) 0 0 (va_A [(PL, .inr (5, oX5 FO aPL PL_rooms PL_doors PL_things PL_draw PL_drawTold)), (FO, .inr (1, oX1 aFO FO_size FO_units FO_told))] sz) := by
  refine Met.ofW (cc := cX5_clear) (maxL := 1) (ret := none) (by decide) rfl ?_
  intro p e s m args below meth c s₁ B hml hv
  obtain ⟨rfl, hsz, hP, hK, hD0, hNw⟩ := hv
  have hx := B.exec
  have hb := B.bytes
  have hr := B.returns
  have hts := atoms_spec (ws := wsX5_clear) B.pre
  have hown : s.vm.findClass RX5 = some m.cls := findClass_of_methodNamed B.named
  have hlocks := B.notSynchronized
  clear B
  subst hsz
  have hD := hD0.self (sz := s.heap.size)
  clear hD0 hNw
  generalize hAe : va_A [(PL, .inr (5, oX5 FO aPL PL_rooms PL_doors PL_things PL_draw PL_drawTold)), (FO, .inr (1, oX1 aFO FO_size FO_units FO_told))] s.heap.size = A at hD ⊢
  have hA : ∀ q : Nat, s.heap.size ≤ q → A q := fun q h => by rw [← hAe]; exact Or.inr h
  have hS : va_S A s.heap s.heap [] := va_S.rf
  clear hAe
  obtain ⟨H, hH⟩ : ∃ H : Heap, H = s.heap := ⟨_, rfl⟩
  obtain ⟨locs, hlocs⟩ : ∃ L : List Loc, L = [] := ⟨_, rfl⟩
  replace hP : va_P D classes [(PL, .inr (5, oX5 FO aPL PL_rooms PL_doors PL_things PL_draw PL_drawTold)), (FO, .inr (1, oX1 aFO FO_size FO_units FO_told))] H := by rw [hH]; exact hP
  replace hS : va_S A s.heap H locs := by rw [hH, hlocs]; exact hS
  rw [← hH, ← hlocs]
  clear hlocs hH
  have hl := lv_entry ([.ref PL]) (n := 1) (Nat.le_of_ble_eq_true rfl)
  rw [lg_entry_eq]
  generalize (lg_sl ([.ref PL]) ++ List.replicate (1 - (lg_sl ([.ref PL])).length) Slot.unset).toArray = ls at hl ⊢
  replace hl : lv_has ls 1 [(0, .ref PL)] := hl
  refine lv_aload_n hx hb dX5_clear_0 rfl (lv_at hl 0 rfl) ?_
  refine lv_iconst (v := 0) hx hb dX5_clear_1 (by decide) ?_
  refine va_put (D := D) (ci := 5) (v := .int 0) (ty := tyX5 0) (C := RX5) (T := TX5) (N := 16) hx hb hts iw_X5_clear_X5 tyX5 tyX5_ok nmX5 hown hK hP hD hS 0 rfl rfl 0 (by decide) (hts (.fieldLink RX5 50 "SoldHouse$Plan" "rooms" "I") (List.mem_of_getElem? (i := 1) rfl)) (fun _ h9 => h9) rfl (by decide +kernel) rfl rfl (Nat.le_of_ble_eq_true rfl) dX5_clear_2 (fun H locs hP hD hS => ?_)
  replace hP : va_P D classes [(PL, .inr (5, oX5 FO aPL 0 PL_doors PL_things PL_draw PL_drawTold)), (FO, .inr (1, oX1 aFO FO_size FO_units FO_told))] H := hP
  replace hD : va_D A [(PL, .inr (5, oX5 FO aPL 0 PL_doors PL_things PL_draw PL_drawTold)), (FO, .inr (1, oX1 aFO FO_size FO_units FO_told))] := hD
  refine lv_aload_n hx hb dX5_clear_5 rfl (lv_at hl 0 rfl) ?_
  refine lv_iconst (v := 0) hx hb dX5_clear_6 (by decide) ?_
  refine va_put (D := D) (ci := 5) (v := .int 0) (ty := tyX5 3) (C := RX5) (T := TX5) (N := 16) hx hb hts iw_X5_clear_X5 tyX5 tyX5_ok nmX5 hown hK hP hD hS 0 rfl rfl 3 (by decide) (hts (.fieldLink RX5 54 "SoldHouse$Plan" "doors" "I") (List.mem_of_getElem? (i := 2) rfl)) (fun _ h9 => h9) rfl (by decide +kernel) rfl rfl (Nat.le_of_ble_eq_true rfl) dX5_clear_7 (fun H locs hP hD hS => ?_)
  replace hP : va_P D classes [(PL, .inr (5, oX5 FO aPL 0 0 PL_things PL_draw PL_drawTold)), (FO, .inr (1, oX1 aFO FO_size FO_units FO_told))] H := hP
  replace hD : va_D A [(PL, .inr (5, oX5 FO aPL 0 0 PL_things PL_draw PL_drawTold)), (FO, .inr (1, oX1 aFO FO_size FO_units FO_told))] := hD
  refine lv_aload_n hx hb dX5_clear_10 rfl (lv_at hl 0 rfl) ?_
  refine lv_iconst (v := 0) hx hb dX5_clear_11 (by decide) ?_
  refine va_put (D := D) (ci := 5) (v := .int 0) (ty := tyX5 6) (C := RX5) (T := TX5) (N := 16) hx hb hts iw_X5_clear_X5 tyX5 tyX5_ok nmX5 hown hK hP hD hS 0 rfl rfl 6 (by decide) (hts (.fieldLink RX5 57 "SoldHouse$Plan" "things" "I") (List.mem_of_getElem? (i := 3) rfl)) (fun _ h9 => h9) rfl (by decide +kernel) rfl rfl (Nat.le_of_ble_eq_true rfl) dX5_clear_12 (fun H locs hP hD hS => ?_)
  replace hP : va_P D classes [(PL, .inr (5, oX5 FO aPL 0 0 0 PL_draw PL_drawTold)), (FO, .inr (1, oX1 aFO FO_size FO_units FO_told))] H := hP
  replace hD : va_D A [(PL, .inr (5, oX5 FO aPL 0 0 0 PL_draw PL_drawTold)), (FO, .inr (1, oX1 aFO FO_size FO_units FO_told))] := hD
  refine lv_aload_n hx hb dX5_clear_15 rfl (lv_at hl 0 rfl) ?_
  refine va_get (D := D) (ci := 5) (v := .ref FO) (C := RX5) (T := TX5) (N := 16) hx hb hts iw_X5_clear_X5 hown hK hP 0 rfl rfl 13 (by decide) (hts (.fieldLink RX5 46 "SoldHouse$Plan" "sure" "LSoldHouse$Formula;") (List.mem_of_getElem? (i := 4) rfl)) (fun _ h9 => h9) rfl dX5_clear_16 ?_
  have hPc := hP.sub (ws' := [(FO, .inr (1, oX1 aFO FO_size FO_units FO_told))]) [1] rfl
  have hDc := hD.sub (ws' := [(FO, .inr (1, oX1 aFO FO_size FO_units FO_told))]) [1] (by decide) rfl
  have hFc := va_free (wc := [(FO, .inr (1, oX1 aFO FO_size FO_units FO_told))]) hD hS hA [1] rfl
  refine va_callv (va_runV (As := []) (rest := []) ⟨hx, hb, hml, hown, hts⟩ (c_X1_clear l D cI cB cL cZ cG FO aFO FO_size FO_units FO_told H.size b_FO_size) (cwV 0 hts gX5_clear_X1_clear rfl rfl rfl (by decide +kernel) ⟨Nat.le_of_ble_eq_true rfl, Nat.le_of_ble_eq_true rfl⟩) ⟨xp_blind, va_recv hK hP (ci := 1) (q0 := 1) rfl rfl, fun U hU hW => xp_mk hU hW hPc hK hDc xNw_nil⟩ rfl rfl hl.1 rfl (lv_room (Nat.le_of_ble_eq_true rfl)) dX5_clear_19 ⟨Nat.le_of_ble_eq_true rfl, Nat.le_of_ble_eq_true rfl⟩) hS (fun q _ h => hFc q h) hFc (fun u9 t9 H1 locs ht9 hvm9 hr19 hB9 hz9 hk9 hS => ?_)
  obtain ⟨o19_nFO_size, o19_nFO_units, o19_nFO_told, bo19_nFO_size, bo19_nFO_units, bo19_nFO_told, hP1, hD1⟩ := hB9
  rw [ht9] at hP1
  obtain ⟨hP, hD⟩ := va_join (wr := [(PL, .inr (5, oX5 FO aPL 0 0 0 PL_draw PL_drawTold))]) (w1 := [(FO, .inr (1, oX1 aFO o19_nFO_size o19_nFO_units o19_nFO_told))]) hP hD [1] [0] rfl rfl (by decide) (by decide) hk9 hFc hP1 hD1
  clear hz9 hPc hDc hP1 hD1 hk9 hFc ht9 hvm9 u9 t9
  generalize H1 = H at hP hS ⊢
  replace hP : va_P D classes [(PL, .inr (5, oX5 FO aPL 0 0 0 PL_draw PL_drawTold)), (FO, .inr (1, oX1 aFO o19_nFO_size o19_nFO_units o19_nFO_told))] H := hP
  replace hD : va_D A [(PL, .inr (5, oX5 FO aPL 0 0 0 PL_draw PL_drawTold)), (FO, .inr (1, oX1 aFO o19_nFO_size o19_nFO_units o19_nFO_told))] := hD
  refine lv_aload_n hx hb dX5_clear_22 rfl (lv_at hl 0 rfl) ?_
  refine lv_iconst (v := 0) hx hb dX5_clear_23 (by decide) ?_
  refine va_put (D := D) (ci := 5) (v := .int 0) (ty := tyX5 14) (C := RX5) (T := TX5) (N := 16) hx hb hts iw_X5_clear_X5 tyX5 tyX5_ok nmX5 hown hK hP hD hS 0 rfl rfl 14 (by decide) (hts (.fieldLink RX5 63 "SoldHouse$Plan" "draw" "I") (List.mem_of_getElem? (i := 5) rfl)) (fun _ h9 => h9) rfl (by decide +kernel) rfl rfl (Nat.le_of_ble_eq_true rfl) dX5_clear_24 (fun H locs hP hD hS => ?_)
  replace hP : va_P D classes [(PL, .inr (5, oX5 FO aPL 0 0 0 0 PL_drawTold)), (FO, .inr (1, oX1 aFO o19_nFO_size o19_nFO_units o19_nFO_told))] H := hP
  replace hD : va_D A [(PL, .inr (5, oX5 FO aPL 0 0 0 0 PL_drawTold)), (FO, .inr (1, oX1 aFO o19_nFO_size o19_nFO_units o19_nFO_told))] := hD
  refine lv_aload_n hx hb dX5_clear_27 rfl (lv_at hl 0 rfl) ?_
  refine lv_iconst (v := 0) hx hb dX5_clear_28 (by decide) ?_
  refine va_put (D := D) (ci := 5) (v := .int 0) (ty := tyX5 15) (C := RX5) (T := TX5) (N := 16) hx hb hts iw_X5_clear_X5 tyX5 tyX5_ok nmX5 hown hK hP hD hS 0 rfl rfl 15 (by decide) (hts (.fieldLink RX5 66 "SoldHouse$Plan" "drawTold" "Z") (List.mem_of_getElem? (i := 6) rfl)) (fun _ h9 => h9) rfl (by decide +kernel) rfl rfl (Nat.le_of_ble_eq_true rfl) dX5_clear_29 (fun H locs hP hD hS => ?_)
  replace hP : va_P D classes [(PL, .inr (5, oX5 FO aPL 0 0 0 0 0)), (FO, .inr (1, oX1 aFO o19_nFO_size o19_nFO_units o19_nFO_told))] H := hP
  replace hD : va_D A [(PL, .inr (5, oX5 FO aPL 0 0 0 0 0)), (FO, .inr (1, oX1 aFO o19_nFO_size o19_nFO_units o19_nFO_told))] := hD
  exact W.vret hx hb hr (fun t ht hW => ⟨⟨(), rfl, trivial, ⟨0, 0, 0, 0, 0, o19_nFO_size, o19_nFO_units, o19_nFO_told, (show zB 0 0 0 from ⟨by decide, by decide⟩), (show zB 0 0 0 from ⟨by decide, by decide⟩), (show zB 0 0 0 from ⟨by decide, by decide⟩), (show zB 0 0 0 from ⟨by decide, by decide⟩), (show zB 0 0 0 from ⟨by decide, by decide⟩), bo19_nFO_size, bo19_nFO_units, bo19_nFO_told, by rw [ht]; exact hP, hD⟩⟩, hS.F ht⟩) hS.2.2 dX5_clear_32
