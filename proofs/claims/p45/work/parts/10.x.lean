set_option maxHeartbeats 4000000 in
set_option maxRecDepth 100000 in
theorem c_J6_bitCount_0f7a4 (l : Launch) (D : va_G) (cI : ClassId) (cB : ClassId) (cL : ClassId) (cZ : ClassId) (cG : ClassId) (x0 : Int32) : Met l yJ6_bitCount_0f7a4 wsJ6_bitCount_0f7a4 ({ frames := 0, cells := 0, slots := 0, locals := 0 }) (xr D [(cI, .int), (cB, .byte), (cL, .long), (cZ, .boolean), (cG, .array .int)] [] [.int x0]) (vp_Si (fun r => zB r 0 63)) 0 0 (fun _ => False) := by
  refine Met.ofW (cc := cJ6_bitCount_0f7a4) (maxL := 1) (ret := (some .int)) (by decide) rfl ?_
  intro p e s m args below meth c s₁ B hml hv
  obtain ⟨rfl, hP, hK⟩ := hv
  have hx := B.exec
  have hb := B.bytes
  have hr := B.returns
  have hts := atoms_spec (ws := wsJ6_bitCount_0f7a4) B.pre
  have hown : s.vm.findClass RJ6 = some m.cls := findClass_of_methodNamed B.named
  have hlocks := B.notSynchronized
  clear B
  have hl := lv_entry ([.int x0]) (n := 1) (Nat.le_of_ble_eq_true rfl)
  rw [lg_entry_eq]
  generalize (lg_sl ([.int x0]) ++ List.replicate (1 - (lg_sl ([.int x0])).length) Slot.unset).toArray = ls at hl ⊢
  replace hl : lv_has ls 1 [(0, .int x0)] := hl
  refine lv_iload_n hx hb dJ6_bitCount_0f7a4_0 rfl (lv_at hl 0 rfl) ?_
  refine lv_iload_n hx hb dJ6_bitCount_0f7a4_1 rfl (lv_at hl 0 rfl) ?_
  refine lv_iconst (v := 1) hx hb dJ6_bitCount_0f7a4_2 (by decide) ?_
  refine lv_iushr hx hb dJ6_bitCount_0f7a4_3 rfl ?_
  refine lv_topi (fun y3 _ => ?_)
  refine lv_ldcw hx hb hown (hts (.constant RJ6 265 (1431655765)) (List.mem_of_getElem? (i := 1) rfl)) dJ6_bitCount_0f7a4_4 ?_
  refine lv_iand hx hb dJ6_bitCount_0f7a4_7 ?_
  refine zi_top (a := 0) (b := 1431655765) (zB_andr (show zB 1431655765 1431655765 1431655765 from ⟨by decide, by decide⟩) (by decide)) (fun y7 by7 => ?_)
  refine lv_isub hx hb dJ6_bitCount_0f7a4_8 ?_
  refine lv_topi (fun y8 _ => ?_)
  refine lv_istore_n (lv' := [(0, .int y8)]) hx hb dJ6_bitCount_0f7a4_9 rfl hl (by decide) rfl (fun ls hl => ?_)
  refine lv_iload_n hx hb dJ6_bitCount_0f7a4_10 rfl (lv_at hl 0 rfl) ?_
  refine lv_ldcw hx hb hown (hts (.constant RJ6 266 (858993459)) (List.mem_of_getElem? (i := 2) rfl)) dJ6_bitCount_0f7a4_11 ?_
  refine lv_iand hx hb dJ6_bitCount_0f7a4_14 ?_
  refine zi_top (a := 0) (b := 858993459) (zB_andr (show zB 858993459 858993459 858993459 from ⟨by decide, by decide⟩) (by decide)) (fun y14 by14 => ?_)
  refine lv_iload_n hx hb dJ6_bitCount_0f7a4_15 rfl (lv_at hl 0 rfl) ?_
  refine lv_iconst (v := 2) hx hb dJ6_bitCount_0f7a4_16 (by decide) ?_
  refine lv_iushr hx hb dJ6_bitCount_0f7a4_17 rfl ?_
  refine lv_topi (fun y17 _ => ?_)
  refine lv_ldcw hx hb hown (hts (.constant RJ6 266 (858993459)) (List.mem_of_getElem? (i := 2) rfl)) dJ6_bitCount_0f7a4_18 ?_
  refine lv_iand hx hb dJ6_bitCount_0f7a4_21 ?_
  refine zi_top (a := 0) (b := 858993459) (zB_andr (show zB 858993459 858993459 858993459 from ⟨by decide, by decide⟩) (by decide)) (fun y21 by21 => ?_)
  refine lv_iadd hx hb dJ6_bitCount_0f7a4_22 ?_
  refine zi_top (a := 0) (b := 1717986918) (zB_add by14 by21 (by decide) (by decide) (by decide) (by decide)) (fun y22 by22 => ?_)
  refine lv_istore_n (lv' := [(0, .int y22)]) hx hb dJ6_bitCount_0f7a4_23 rfl hl (by decide) rfl (fun ls hl => ?_)
  refine lv_iload_n hx hb dJ6_bitCount_0f7a4_24 rfl (lv_at hl 0 rfl) ?_
  refine lv_iload_n hx hb dJ6_bitCount_0f7a4_25 rfl (lv_at hl 0 rfl) ?_
  refine lv_iconst (v := 4) hx hb dJ6_bitCount_0f7a4_26 (by decide) ?_
  refine lv_iushr hx hb dJ6_bitCount_0f7a4_27 rfl ?_
  refine lv_topi (fun y27 _ => ?_)
  refine lv_iadd hx hb dJ6_bitCount_0f7a4_28 ?_
  refine lv_topi (fun y28 _ => ?_)
  refine lv_ldcw hx hb hown (hts (.constant RJ6 267 (252645135)) (List.mem_of_getElem? (i := 3) rfl)) dJ6_bitCount_0f7a4_29 ?_
  refine lv_iand hx hb dJ6_bitCount_0f7a4_32 ?_
  refine zi_top (a := 0) (b := 252645135) (zB_andr (show zB 252645135 252645135 252645135 from ⟨by decide, by decide⟩) (by decide)) (fun y32 by32 => ?_)
  refine lv_istore_n (lv' := [(0, .int y32)]) hx hb dJ6_bitCount_0f7a4_33 rfl hl (by decide) rfl (fun ls hl => ?_)
  refine lv_iload_n hx hb dJ6_bitCount_0f7a4_34 rfl (lv_at hl 0 rfl) ?_
  refine lv_iload_n hx hb dJ6_bitCount_0f7a4_35 rfl (lv_at hl 0 rfl) ?_
  refine lv_bipush (v := 8) hx hb dJ6_bitCount_0f7a4_36 (by decide) ?_
  refine lv_iushr hx hb dJ6_bitCount_0f7a4_38 rfl ?_
  refine lv_topi (fun y38 _ => ?_)
  refine lv_iadd hx hb dJ6_bitCount_0f7a4_39 ?_
  refine lv_topi (fun y39 _ => ?_)
  refine lv_istore_n (lv' := [(0, .int y39)]) hx hb dJ6_bitCount_0f7a4_40 rfl hl (by decide) rfl (fun ls hl => ?_)
  refine lv_iload_n hx hb dJ6_bitCount_0f7a4_41 rfl (lv_at hl 0 rfl) ?_
  refine lv_iload_n hx hb dJ6_bitCount_0f7a4_42 rfl (lv_at hl 0 rfl) ?_
  refine lv_bipush (v := 16) hx hb dJ6_bitCount_0f7a4_43 (by decide) ?_
  refine lv_iushr hx hb dJ6_bitCount_0f7a4_45 rfl ?_
  refine lv_topi (fun y45 _ => ?_)
  refine lv_iadd hx hb dJ6_bitCount_0f7a4_46 ?_
  refine lv_topi (fun y46 _ => ?_)
  refine lv_istore_n (lv' := [(0, .int y46)]) hx hb dJ6_bitCount_0f7a4_47 rfl hl (by decide) rfl (fun ls hl => ?_)
  refine lv_iload_n hx hb dJ6_bitCount_0f7a4_48 rfl (lv_at hl 0 rfl) ?_
  refine lv_bipush (v := 63) hx hb dJ6_bitCount_0f7a4_49 (by decide) ?_
  refine lv_iand hx hb dJ6_bitCount_0f7a4_51 ?_
  refine zi_top (a := 0) (b := 63) (zB_andr (show zB 63 63 63 from ⟨by decide, by decide⟩) (by decide)) (fun y51 by51 => ?_)
  exact W.iret (v := y51) hx hb hr (fun t ht hW => ⟨y51, rfl, by51, ht⟩) (fun q hq => by cases hq) dJ6_bitCount_0f7a4_52
set_option maxHeartbeats 4000000 in
set_option maxRecDepth 100000 in
theorem c_fill64 (l : Launch) (D : va_G) (cI : ClassId) (cB : ClassId) (cL : ClassId) (cZ : ClassId) (cG : ClassId) (ar : Nat) (ar_f : Nat → Int32) (x1 : Int32) (sz : Nat) (b_x1 : zB x1 (-1) 7) (s_ar_f_0 : zA ar_f 0 64 (-1) 7) : Met l yJ7_fill_53178 wsJ7_fill_53178 ({ frames := 0, cells := 0, slots := 0, locals := 0 }) (xp D [(cI, .int), (cB, .byte), (cL, .long), (cZ, .boolean), (cG, .array .int)] [(ar, .inl (cI, 64, .inl ar_f))] sz [] [.ref ar, .int x1]) (va_Qv (fun _ : Unit => True) (fun (_ : Unit) (t : State) => ∃ (narf : Nat → Int32), zA narf 0 64 (-1) 7 ∧ xB D (va_A [(ar, .inl (cI, 64, .inl ar_f))] sz) [(ar, .inl (cI, 64, .inl narf))] t) (va_A [(ar, .inl (cI, 64, .inl ar_f))] sz)) 0 0 (va_A [(ar, .inl (cI, 64, .inl ar_f))] sz) := by
  refine Met.ofW (cc := cJ7_fill_53178) (maxL := 4) (ret := none) (by decide) rfl ?_
  intro p e s m args below meth c s₁ B hml hv
  obtain ⟨rfl, hsz, hP, hK, hD0, hNw⟩ := hv
  have hx := B.exec
  have hb := B.bytes
  have hr := B.returns
  have hts := atoms_spec (ws := wsJ7_fill_53178) B.pre
  have hown : s.vm.findClass RJ7 = some m.cls := findClass_of_methodNamed B.named
  have hlocks := B.notSynchronized
  clear B
  subst hsz
  have hD := hD0.self (sz := s.heap.size)
  clear hD0 hNw
  generalize hAe : va_A [(ar, .inl (cI, 64, .inl ar_f))] s.heap.size = A at hD ⊢
  have hA : ∀ q : Nat, s.heap.size ≤ q → A q := fun q h => by rw [← hAe]; exact Or.inr h
  have hS : va_S A s.heap s.heap [] := va_S.rf
  clear hAe
  obtain ⟨H, hH⟩ : ∃ H : Heap, H = s.heap := ⟨_, rfl⟩
  obtain ⟨locs, hlocs⟩ : ∃ L : List Loc, L = [] := ⟨_, rfl⟩
  replace hP : va_P D classes [(ar, .inl (cI, 64, .inl ar_f))] H := by rw [hH]; exact hP
  replace hS : va_S A s.heap H locs := by rw [hH, hlocs]; exact hS
  rw [← hH, ← hlocs]
  clear hlocs hH
  have hl := lv_entry ([.ref ar, .int x1]) (n := 4) (Nat.le_of_ble_eq_true rfl)
  rw [lg_entry_eq]
  generalize (lg_sl ([.ref ar, .int x1]) ++ List.replicate (4 - (lg_sl ([.ref ar, .int x1])).length) Slot.unset).toArray = ls at hl ⊢
  replace hl : lv_has ls 4 [(0, .ref ar), (1, .int x1)] := hl
  refine zz_abs (R := ({ frames := 0, cells := 0, slots := 0, locals := 0 } : Room)) (fun Q up => ?_)
  refine lv_iconst (v := 0) hx hb dJ7_fill_53178_0 (by decide) ?_
  refine lv_istore_n (lv' := [(2, .int 0), (0, .ref ar), (1, .int x1)]) hx hb dJ7_fill_53178_1 rfl hl (by decide) rfl (fun ls hl => ?_)
  refine lv_aload_n hx hb dJ7_fill_53178_2 rfl (lv_at hl 1 rfl) ?_
  refine va_alen (v := 64) hx hb hK hP 0 0 rfl rfl rfl dJ7_fill_53178_3 ?_
  have j5 : ∀ (n5 : Nat) (H : Heap) (locs : List Loc) (ls : Array Slot) (v5_2 : Int32) (g5_ar : Nat → Int32), zB v5_2 0 64 → zA g5_ar 0 64 (-1) 7 → (64 + 1 - v5_2.toInt) ≤ (n5 : Int) → va_P D classes [(ar, .inl (cI, 64, .inl g5_ar))] H → va_D A [(ar, .inl (cI, 64, .inl g5_ar))] → va_S A s.heap H locs → lv_has ls 4 [(3, .int 64), (2, .int v5_2), (0, .ref ar), (1, .int x1)] → W p l e ({ frames := 0, cells := 0, slots := 0, locals := 0 } : Room) s m ([.ref ar, .int x1] : List Value).toArray below meth c H locs 0 0 Q (F0 m 5 ls []) := by
    intro n5
    induction n5 with
    | zero => intro H locs ls v5_2 g5_ar bv5_2_k5 sg5_ar_0_k5 hm5 hP hD hS hl; exact zM_u0 bv5_2_k5 hm5
    | succ n5 ih5 =>
      intro H locs ls v5_2 g5_ar bv5_2_k5 sg5_ar_0_k5 hm5 hP hD hS hl
      refine lv_iload_n hx hb dJ7_fill_53178_5 rfl (lv_at hl 1 rfl) ?_
      refine lv_iload_n hx hb dJ7_fill_53178_6 rfl (lv_at hl 0 rfl) ?_
      refine lv_icmp_ge (tgt := 20) hx hb dJ7_fill_53178_7 (by decide) (fun c7 => ?_) (fun c7 => ?_)
      · have by7t_v5_2 : zB v5_2 64 64 := zB_lev (ze c7) (show zB 64 64 64 from ⟨by decide, by decide⟩) bv5_2_k5 (by decide)
        exact up _ _ _ (W.vret hx hb hr (fun t ht hW => ⟨⟨(), rfl, trivial, ⟨g5_ar, sg5_ar_0_k5, by rw [ht]; exact hP, hD⟩⟩, hS.F ht⟩) hS.2.2 dJ7_fill_53178_20)
      · have bx7f_v5_2 : zB v5_2 0 63 := zB_ltu (zf c7) bv5_2_k5 (show zB 64 64 64 from ⟨by decide, by decide⟩) (by decide)
        refine lv_aload_n hx hb dJ7_fill_53178_10 rfl (lv_at hl 2 rfl) ?_
        refine lv_iload_n hx hb dJ7_fill_53178_11 rfl (lv_at hl 1 rfl) ?_
        refine lv_iload_n hx hb dJ7_fill_53178_12 rfl (lv_at hl 3 rfl) ?_
        refine zi_iast hx hb hK hP hD hS 0 0 rfl rfl (zB_in bx7f_v5_2 (by decide) (by decide)) dJ7_fill_53178_13 (fun H locs g13 eg13 hP hD hS => ?_)
        replace hP : va_P D classes [(ar, .inl (cI, 64, .inl g13))] H := hP
        replace hD : va_D A [(ar, .inl (cI, 64, .inl g13))] := hD
        have sg13_0 := zA_up eg13 sg5_ar_0_k5 b_x1 (by decide) (by decide)
        clear eg13
        obtain ⟨y14, by14, ry14, ey14⟩ := zi_inc (x := v5_2) (k := 1) (a := 1) (b := 64) bx7f_v5_2 (by decide) (by decide) (by decide) (by decide) (by decide)
        refine lv_iinc (v := y14) (lv' := [(2, .int y14), (3, .int 64), (0, .ref ar), (1, .int x1)]) hx hb dJ7_fill_53178_14 hl (k := 1) rfl ey14 (by decide) rfl (fun ls hl => ?_)
        refine lv_goto (tgt := 5) hx hb dJ7_fill_53178_17 (by decide) ?_
        exact ih5 H locs ls y14 g13 (zB_w by14 (by decide) (by decide)) sg13_0 (zM_us (k := 1) hm5 ry14 (by decide)) hP hD hS (lv_sub hl [1, 0, 2, 3] rfl)
  refine lv_istore_n (lv' := [(3, .int 64), (2, .int 0), (0, .ref ar), (1, .int x1)]) hx hb dJ7_fill_53178_4 rfl hl (by decide) rfl (fun ls hl => ?_)
  exact j5 65 H locs ls 0 ar_f (zB_w (show zB 0 0 0 from ⟨by decide, by decide⟩) (by decide) (by decide)) s_ar_f_0 (zM_ui (show zB 0 0 0 from ⟨by decide, by decide⟩) (by decide)) hP hD hS (lv_sub hl [0, 1, 2, 3] rfl)
set_option maxHeartbeats 4000000 in
set_option maxRecDepth 100000 in
theorem c_fill8 (l : Launch) (D : va_G) (cI : ClassId) (cB : ClassId) (cL : ClassId) (cZ : ClassId) (cG : ClassId) (ar : Nat) (ar_f : Nat → Int32) (x1 : Int32) (sz : Nat) : Met l yJ7_fill_53178 wsJ7_fill_53178 ({ frames := 0, cells := 0, slots := 0, locals := 0 }) (xp D [(cI, .int), (cB, .byte), (cL, .long), (cZ, .boolean), (cG, .array .int)] [(ar, .inl (cI, 8, .inl ar_f))] sz [] [.ref ar, .int x1]) (va_Qv (fun _ : Unit => True) (fun (_ : Unit) (t : State) => ∃ (narf : Nat → Int32), xB D (va_A [(ar, .inl (cI, 8, .inl ar_f))] sz) [(ar, .inl (cI, 8, .inl narf))] t) (va_A [(ar, .inl (cI, 8, .inl ar_f))] sz)) 0 0 (va_A [(ar, .inl (cI, 8, .inl ar_f))] sz) := by
  refine Met.ofW (cc := cJ7_fill_53178) (maxL := 4) (ret := none) (by decide) rfl ?_
  intro p e s m args below meth c s₁ B hml hv
  obtain ⟨rfl, hsz, hP, hK, hD0, hNw⟩ := hv
  have hx := B.exec
  have hb := B.bytes
  have hr := B.returns
  have hts := atoms_spec (ws := wsJ7_fill_53178) B.pre
  have hown : s.vm.findClass RJ7 = some m.cls := findClass_of_methodNamed B.named
  have hlocks := B.notSynchronized
  clear B
  subst hsz
  have hD := hD0.self (sz := s.heap.size)
  clear hD0 hNw
  generalize hAe : va_A [(ar, .inl (cI, 8, .inl ar_f))] s.heap.size = A at hD ⊢
  have hA : ∀ q : Nat, s.heap.size ≤ q → A q := fun q h => by rw [← hAe]; exact Or.inr h
  have hS : va_S A s.heap s.heap [] := va_S.rf
  clear hAe
  obtain ⟨H, hH⟩ : ∃ H : Heap, H = s.heap := ⟨_, rfl⟩
  obtain ⟨locs, hlocs⟩ : ∃ L : List Loc, L = [] := ⟨_, rfl⟩
  replace hP : va_P D classes [(ar, .inl (cI, 8, .inl ar_f))] H := by rw [hH]; exact hP
  replace hS : va_S A s.heap H locs := by rw [hH, hlocs]; exact hS
  rw [← hH, ← hlocs]
  clear hlocs hH
  have hl := lv_entry ([.ref ar, .int x1]) (n := 4) (Nat.le_of_ble_eq_true rfl)
  rw [lg_entry_eq]
  generalize (lg_sl ([.ref ar, .int x1]) ++ List.replicate (4 - (lg_sl ([.ref ar, .int x1])).length) Slot.unset).toArray = ls at hl ⊢
  replace hl : lv_has ls 4 [(0, .ref ar), (1, .int x1)] := hl
  refine zz_abs (R := ({ frames := 0, cells := 0, slots := 0, locals := 0 } : Room)) (fun Q up => ?_)
  refine lv_iconst (v := 0) hx hb dJ7_fill_53178_0 (by decide) ?_
  refine lv_istore_n (lv' := [(2, .int 0), (0, .ref ar), (1, .int x1)]) hx hb dJ7_fill_53178_1 rfl hl (by decide) rfl (fun ls hl => ?_)
  refine lv_aload_n hx hb dJ7_fill_53178_2 rfl (lv_at hl 1 rfl) ?_
  refine va_alen (v := 8) hx hb hK hP 0 0 rfl rfl rfl dJ7_fill_53178_3 ?_
  have j5 : ∀ (n5 : Nat) (H : Heap) (locs : List Loc) (ls : Array Slot) (v5_2 : Int32) (g5_ar : Nat → Int32), zB v5_2 0 8 → (8 + 1 - v5_2.toInt) ≤ (n5 : Int) → va_P D classes [(ar, .inl (cI, 8, .inl g5_ar))] H → va_D A [(ar, .inl (cI, 8, .inl g5_ar))] → va_S A s.heap H locs → lv_has ls 4 [(3, .int 8), (2, .int v5_2), (0, .ref ar), (1, .int x1)] → W p l e ({ frames := 0, cells := 0, slots := 0, locals := 0 } : Room) s m ([.ref ar, .int x1] : List Value).toArray below meth c H locs 0 0 Q (F0 m 5 ls []) := by
    intro n5
    induction n5 with
    | zero => intro H locs ls v5_2 g5_ar bv5_2_k5 hm5 hP hD hS hl; exact zM_u0 bv5_2_k5 hm5
    | succ n5 ih5 =>
      intro H locs ls v5_2 g5_ar bv5_2_k5 hm5 hP hD hS hl
      refine lv_iload_n hx hb dJ7_fill_53178_5 rfl (lv_at hl 1 rfl) ?_
      refine lv_iload_n hx hb dJ7_fill_53178_6 rfl (lv_at hl 0 rfl) ?_
      refine lv_icmp_ge (tgt := 20) hx hb dJ7_fill_53178_7 (by decide) (fun c7 => ?_) (fun c7 => ?_)
      · have by7t_v5_2 : zB v5_2 8 8 := zB_lev (ze c7) (show zB 8 8 8 from ⟨by decide, by decide⟩) bv5_2_k5 (by decide)
        exact up _ _ _ (W.vret hx hb hr (fun t ht hW => ⟨⟨(), rfl, trivial, ⟨g5_ar, by rw [ht]; exact hP, hD⟩⟩, hS.F ht⟩) hS.2.2 dJ7_fill_53178_20)
      · have bx7f_v5_2 : zB v5_2 0 7 := zB_ltu (zf c7) bv5_2_k5 (show zB 8 8 8 from ⟨by decide, by decide⟩) (by decide)
        refine lv_aload_n hx hb dJ7_fill_53178_10 rfl (lv_at hl 2 rfl) ?_
        refine lv_iload_n hx hb dJ7_fill_53178_11 rfl (lv_at hl 1 rfl) ?_
        refine lv_iload_n hx hb dJ7_fill_53178_12 rfl (lv_at hl 3 rfl) ?_
        refine zi_iast hx hb hK hP hD hS 0 0 rfl rfl (zB_in bx7f_v5_2 (by decide) (by decide)) dJ7_fill_53178_13 (fun H locs g13 eg13 hP hD hS => ?_)
        replace hP : va_P D classes [(ar, .inl (cI, 8, .inl g13))] H := hP
        replace hD : va_D A [(ar, .inl (cI, 8, .inl g13))] := hD
        clear eg13
        obtain ⟨y14, by14, ry14, ey14⟩ := zi_inc (x := v5_2) (k := 1) (a := 1) (b := 8) bx7f_v5_2 (by decide) (by decide) (by decide) (by decide) (by decide)
        refine lv_iinc (v := y14) (lv' := [(2, .int y14), (3, .int 8), (0, .ref ar), (1, .int x1)]) hx hb dJ7_fill_53178_14 hl (k := 1) rfl ey14 (by decide) rfl (fun ls hl => ?_)
        refine lv_goto (tgt := 5) hx hb dJ7_fill_53178_17 (by decide) ?_
        exact ih5 H locs ls y14 g13 (zB_w by14 (by decide) (by decide)) (zM_us (k := 1) hm5 ry14 (by decide)) hP hD hS (lv_sub hl [1, 0, 2, 3] rfl)
  refine lv_istore_n (lv' := [(3, .int 8), (2, .int 0), (0, .ref ar), (1, .int x1)]) hx hb dJ7_fill_53178_4 rfl hl (by decide) rfl (fun ls hl => ?_)
  exact j5 9 H locs ls 0 ar_f (zB_w (show zB 0 0 0 from ⟨by decide, by decide⟩) (by decide) (by decide)) (zM_ui (show zB 0 0 0 from ⟨by decide, by decide⟩) (by decide)) hP hD hS (lv_sub hl [0, 1, 2, 3] rfl)
set_option maxHeartbeats 4000000 in
set_option maxRecDepth 100000 in
theorem c_X8_put (l : Launch) (D : va_G) (cI : ClassId) (cB : ClassId) (cL : ClassId) (cZ : ClassId) (cG : ClassId) (TA : Nat) (x0 : Int32) (aTA : Nat → Nat) (TA_size : Int32) (TA_bytes : Nat → Int32) (sz : Nat) (b_TA_size : zB TA_size 0 1600) : Met l yX8_put wsX8_put ({ frames := 0, cells := 0, slots := 0, locals := 0 }) (xp D [(cI, .int), (cB, .byte), (cL, .long), (cZ, .boolean), (cG, .array .int)] [(TA, .inr (8, oX8 aTA TA_size)), ((aTA 0), .inl (cB, 1600, .inl TA_bytes))] sz [] [.ref TA, .int x0]) (va_Qv (fun _ : Unit => True) (fun (_ : Unit) (t : State) => ∃ (nTA_size : Int32), ∃ (nTAbytes : Nat → Int32), zB nTA_size 0 1600 ∧ xB D (va_A [(TA, .inr (8, oX8 aTA TA_size)), ((aTA 0), .inl (cB, 1600, .inl TA_bytes))] sz) [(TA, .inr (8, oX8 aTA nTA_size)), ((aTA 0), .inl (cB, 1600, .inl nTAbytes))] t) (va_A [(TA, .inr (8, oX8 aTA TA_size)), ((aTA 0), .inl (cB, 1600, .inl TA_bytes))] sz)) 0 0 (va_A [(TA, .inr (8, oX8 aTA TA_size)), ((aTA 0), .inl (cB, 1600, .inl TA_bytes))] sz) := by
  refine Met.ofW (cc := cX8_put) (maxL := 3) (ret := none) (by decide) rfl ?_
  intro p e s m args below meth c s₁ B hml hv
  obtain ⟨rfl, hsz, hP, hK, hD0, hNw⟩ := hv
  have hx := B.exec
  have hb := B.bytes
  have hr := B.returns
  have hts := atoms_spec (ws := wsX8_put) B.pre
  have hown : s.vm.findClass RX8 = some m.cls := findClass_of_methodNamed B.named
  have hlocks := B.notSynchronized
  clear B
  subst hsz
  have hD := hD0.self (sz := s.heap.size)
  clear hD0 hNw
  generalize hAe : va_A [(TA, .inr (8, oX8 aTA TA_size)), ((aTA 0), .inl (cB, 1600, .inl TA_bytes))] s.heap.size = A at hD ⊢
  have hA : ∀ q : Nat, s.heap.size ≤ q → A q := fun q h => by rw [← hAe]; exact Or.inr h
  have hS : va_S A s.heap s.heap [] := va_S.rf
  clear hAe
  obtain ⟨H, hH⟩ : ∃ H : Heap, H = s.heap := ⟨_, rfl⟩
  obtain ⟨locs, hlocs⟩ : ∃ L : List Loc, L = [] := ⟨_, rfl⟩
  replace hP : va_P D classes [(TA, .inr (8, oX8 aTA TA_size)), ((aTA 0), .inl (cB, 1600, .inl TA_bytes))] H := by rw [hH]; exact hP
  replace hS : va_S A s.heap H locs := by rw [hH, hlocs]; exact hS
  rw [← hH, ← hlocs]
  clear hlocs hH
  have hl := lv_entry ([.ref TA, .int x0]) (n := 3) (Nat.le_of_ble_eq_true rfl)
  rw [lg_entry_eq]
  generalize (lg_sl ([.ref TA, .int x0]) ++ List.replicate (3 - (lg_sl ([.ref TA, .int x0])).length) Slot.unset).toArray = ls at hl ⊢
  replace hl : lv_has ls 3 [(0, .ref TA), (1, .int x0)] := hl
  refine zz_abs (R := ({ frames := 0, cells := 0, slots := 0, locals := 0 } : Room)) (fun Q up => ?_)
  refine lv_bipush (v := 24) hx hb dX8_put_0 (by decide) ?_
  have j3 : ∀ (n3 : Nat) (H : Heap) (locs : List Loc) (ls : Array Slot) (v3_2 : Int32) (w3_TA_1 : Int32) (g3_aTA0 : Nat → Int32), zB v3_2 (-8) 24 → zB w3_TA_1 0 1600 → (v3_2.toInt - (-8) + 1) ≤ (n3 : Int) → va_P D classes [(TA, .inr (8, oX8 aTA w3_TA_1)), ((aTA 0), .inl (cB, 1600, .inl g3_aTA0))] H → va_D A [(TA, .inr (8, oX8 aTA w3_TA_1)), ((aTA 0), .inl (cB, 1600, .inl g3_aTA0))] → va_S A s.heap H locs → lv_has ls 3 [(2, .int v3_2), (0, .ref TA), (1, .int x0)] → W p l e ({ frames := 0, cells := 0, slots := 0, locals := 0 } : Room) s m ([.ref TA, .int x0] : List Value).toArray below meth c H locs 0 0 Q (F0 m 3 ls []) := by
    intro n3
    induction n3 with
    | zero => intro H locs ls v3_2 w3_TA_1 g3_aTA0 bv3_2_k3 bw3_TA_1_k3 hm3 hP hD hS hl; exact zM_d0 bv3_2_k3 hm3
    | succ n3 ih3 =>
      intro H locs ls v3_2 w3_TA_1 g3_aTA0 bv3_2_k3 bw3_TA_1_k3 hm3 hP hD hS hl
      refine lv_iload_n hx hb dX8_put_3 rfl (lv_at hl 0 rfl) ?_
      refine lv_if_lt (tgt := 46) hx hb dX8_put_4 (by decide) (fun c4 => ?_) (fun c4 => ?_)
      · have bx4t_v3_2 : zB v3_2 (-8) (-1) := zB_ltu (zl c4) bv3_2_k3 (show zB 0 0 0 from ⟨by decide, by decide⟩) (by decide)
        exact up _ _ _ (W.vret hx hb hr (fun t ht hW => ⟨⟨(), rfl, trivial, ⟨w3_TA_1, g3_aTA0, bw3_TA_1_k3, by rw [ht]; exact hP, hD⟩⟩, hS.F ht⟩) hS.2.2 dX8_put_46)
      · have by4f_v3_2 : zB v3_2 0 24 := zB_lev (zg c4) (show zB 0 0 0 from ⟨by decide, by decide⟩) bv3_2_k3 (by decide)
        refine lv_aload_n hx hb dX8_put_7 rfl (lv_at hl 1 rfl) ?_
        refine va_get (D := D) (ci := 8) (v := .int w3_TA_1) (C := RX8) (T := TX8) (N := 2) hx hb hts iw_X8_put_X8 hown hK hP 0 rfl rfl 1 (by decide) (hts (.fieldLink RX8 15 "SoldHouse$Tape" "size" "I") (List.mem_of_getElem? (i := 1) rfl)) (fun _ h9 => h9) rfl dX8_put_8 ?_
        refine lv_sipush (v := 1600) hx hb dX8_put_11 (by decide) ?_
        have j40 : ∀ (H : Heap) (locs : List Loc) (ls : Array Slot) (w40_TA_1 : Int32) (g40_aTA0 : Nat → Int32), zB w40_TA_1 1 1600 → va_P D classes [(TA, .inr (8, oX8 aTA w40_TA_1)), ((aTA 0), .inl (cB, 1600, .inl g40_aTA0))] H → va_D A [(TA, .inr (8, oX8 aTA w40_TA_1)), ((aTA 0), .inl (cB, 1600, .inl g40_aTA0))] → va_S A s.heap H locs → lv_has ls 3 [(2, .int v3_2), (0, .ref TA), (1, .int x0)] → W p l e ({ frames := 0, cells := 0, slots := 0, locals := 0 } : Room) s m ([.ref TA, .int x0] : List Value).toArray below meth c H locs 0 0 Q (F0 m 40 ls []) := by
          intro H locs ls w40_TA_1 g40_aTA0 bw40_TA_1_k40 hP hD hS hl
          obtain ⟨y40, by40, ry40, ey40⟩ := zi_inc (x := v3_2) (k := (-8)) (a := (-8)) (b := 16) by4f_v3_2 (by decide) (by decide) (by decide) (by decide) (by decide)
          refine lv_iinc (v := y40) (lv' := [(2, .int y40), (0, .ref TA), (1, .int x0)]) hx hb dX8_put_40 hl (k := 0) rfl ey40 (by decide) rfl (fun ls hl => ?_)
          refine lv_goto (tgt := 3) hx hb dX8_put_43 (by decide) ?_
          exact ih3 H locs ls y40 w40_TA_1 g40_aTA0 (zB_w by40 (by decide) (by decide)) (zB_w bw40_TA_1_k40 (by decide) (by decide)) (zM_ds (k := 8) hm3 ry40 (by decide)) hP hD hS (lv_sub hl [0, 1, 2] rfl)
        refine lv_icmp_ge (tgt := 40) hx hb dX8_put_14 (by decide) (fun c14 => ?_) (fun c14 => ?_)
        · have by14t_w3_TA_1 : zB w3_TA_1 1600 1600 := zB_lev (ze c14) (show zB 1600 1600 1600 from ⟨by decide, by decide⟩) bw3_TA_1_k3 (by decide)
          exact j40 H locs ls w3_TA_1 g3_aTA0 (zB_w by14t_w3_TA_1 (by decide) (by decide)) hP hD hS (lv_sub hl [0, 1, 2] rfl)
        · have bx14f_w3_TA_1 : zB w3_TA_1 0 1599 := zB_ltu (zf c14) bw3_TA_1_k3 (show zB 1600 1600 1600 from ⟨by decide, by decide⟩) (by decide)
          refine lv_aload_n hx hb dX8_put_17 rfl (lv_at hl 1 rfl) ?_
          refine va_get (D := D) (ci := 8) (v := .ref (aTA 0)) (C := RX8) (T := TX8) (N := 2) hx hb hts iw_X8_put_X8 hown hK hP 0 rfl rfl 0 (by decide) (hts (.fieldLink RX8 9 "SoldHouse$Tape" "bytes" "[B") (List.mem_of_getElem? (i := 2) rfl)) (fun _ h9 => h9) rfl dX8_put_18 ?_
          refine lv_aload_n hx hb dX8_put_21 rfl (lv_at hl 1 rfl) ?_
          refine va_get (D := D) (ci := 8) (v := .int w3_TA_1) (C := RX8) (T := TX8) (N := 2) hx hb hts iw_X8_put_X8 hown hK hP 0 rfl rfl 1 (by decide) (hts (.fieldLink RX8 15 "SoldHouse$Tape" "size" "I") (List.mem_of_getElem? (i := 1) rfl)) (fun _ h9 => h9) rfl dX8_put_22 ?_
          refine lv_iload_n hx hb dX8_put_25 rfl (lv_at hl 2 rfl) ?_
          refine lv_iload_n hx hb dX8_put_26 rfl (lv_at hl 0 rfl) ?_
          refine lv_ishr hx hb dX8_put_27 ?_
          refine lv_topi (fun y27 _ => ?_)
          refine lv_i2b hx hb dX8_put_28 rfl ?_
          refine lv_topi (fun y28 _ => ?_)
          refine zi_bast hx hb hK hP hD hS 1 1 rfl rfl (zB_in bx14f_w3_TA_1 (by decide) (by decide)) dX8_put_29 (fun H locs g29 eg29 hP hD hS => ?_)
          replace hP : va_P D classes [(TA, .inr (8, oX8 aTA w3_TA_1)), ((aTA 0), .inl (cB, 1600, .inl g29))] H := hP
          replace hD : va_D A [(TA, .inr (8, oX8 aTA w3_TA_1)), ((aTA 0), .inl (cB, 1600, .inl g29))] := hD
          clear eg29
          refine lv_aload_n hx hb dX8_put_30 rfl (lv_at hl 1 rfl) ?_
          refine lv_dup hx hb dX8_put_31 rfl ?_
          refine va_get (D := D) (ci := 8) (v := .int w3_TA_1) (C := RX8) (T := TX8) (N := 2) hx hb hts iw_X8_put_X8 hown hK hP 0 rfl rfl 1 (by decide) (hts (.fieldLink RX8 15 "SoldHouse$Tape" "size" "I") (List.mem_of_getElem? (i := 1) rfl)) (fun _ h9 => h9) rfl dX8_put_32 ?_
          refine lv_iconst (v := 1) hx hb dX8_put_35 (by decide) ?_
          refine lv_iadd hx hb dX8_put_36 ?_
          refine zi_top2 (P := fun y => y.toInt = w3_TA_1.toInt + 1) (a := 1) (b := 1600) (zB_add bx14f_w3_TA_1 (show zB 1 1 1 from ⟨by decide, by decide⟩) (by decide) (by decide) (by decide) (by decide)) (zR_addc bx14f_w3_TA_1 (by decide) (by decide) (by decide)) (fun y36 by36 ry36 => ?_)
          refine va_put (D := D) (ci := 8) (v := .int y36) (ty := tyX8 1) (C := RX8) (T := TX8) (N := 2) hx hb hts iw_X8_put_X8 tyX8 tyX8_ok nmX8 hown hK hP hD hS 0 rfl rfl 1 (by decide) (hts (.fieldLink RX8 15 "SoldHouse$Tape" "size" "I") (List.mem_of_getElem? (i := 1) rfl)) (fun _ h9 => h9) rfl (by decide +kernel) rfl rfl (Nat.le_of_ble_eq_true rfl) dX8_put_37 (fun H locs hP hD hS => ?_)
          replace hP : va_P D classes [(TA, .inr (8, oX8 aTA y36)), ((aTA 0), .inl (cB, 1600, .inl g29))] H := hP
          replace hD : va_D A [(TA, .inr (8, oX8 aTA y36)), ((aTA 0), .inl (cB, 1600, .inl g29))] := hD
          exact j40 H locs ls y36 g29 by36 hP hD hS (lv_sub hl [0, 1, 2] rfl)
  refine lv_istore_n (lv' := [(2, .int 24), (0, .ref TA), (1, .int x0)]) hx hb dX8_put_2 rfl hl (by decide) rfl (fun ls hl => ?_)
  exact j3 33 H locs ls 24 TA_size TA_bytes (zB_w (show zB 24 24 24 from ⟨by decide, by decide⟩) (by decide) (by decide)) b_TA_size (zM_di (show zB 24 24 24 from ⟨by decide, by decide⟩) (by decide)) hP hD hS (lv_sub hl [0, 1, 2] rfl)
set_option maxHeartbeats 4000000 in
set_option maxRecDepth 100000 in
theorem c_X0_allRooms (l : Launch) (D : va_G) (cI : ClassId) (cB : ClassId) (cL : ClassId) (cZ : ClassId) (cG : ClassId) (FL : Nat) (PL : Nat) (aFL : Nat → Nat) (FL_parting : Int32) (PL_rooms : Int32) (aPL : Nat → Nat) (PL_doors : Int32) (PL_things : Int32) (FO : Nat) (PL_draw : Int32) (PL_drawTold : Int32) (b_PL_rooms : zB PL_rooms 0 8) (b_PL_doors : zB PL_doors 0 12) (b_PL_things : zB PL_things 0 6) : Met l yX0_allRooms wsX0_allRooms ({ frames := 0, cells := 0, slots := 0, locals := 0 }) (xr D [(cI, .int), (cB, .byte), (cL, .long), (cZ, .boolean), (cG, .array .int)] [(FL, .inr (0, oX0 PL aFL FL_parting)), (PL, .inr (5, oX5 FO aPL PL_rooms PL_doors PL_things PL_draw PL_drawTold))] [.ref FL]) (vp_Si (fun r => zB r 0 255)) 0 0 (fun _ => False) := by
  refine Met.ofW (cc := cX0_allRooms) (maxL := 1) (ret := (some .int)) (by decide) rfl ?_
  intro p e s m args below meth c s₁ B hml hv
  obtain ⟨rfl, hP, hK⟩ := hv
  have hx := B.exec
  have hb := B.bytes
  have hr := B.returns
  have hts := atoms_spec (ws := wsX0_allRooms) B.pre
  have hown : s.vm.findClass RX0 = some m.cls := findClass_of_methodNamed B.named
  have hlocks := B.notSynchronized
  clear B
  have hl := lv_entry ([.ref FL]) (n := 1) (Nat.le_of_ble_eq_true rfl)
  rw [lg_entry_eq]
  generalize (lg_sl ([.ref FL]) ++ List.replicate (1 - (lg_sl ([.ref FL])).length) Slot.unset).toArray = ls at hl ⊢
  replace hl : lv_has ls 1 [(0, .ref FL)] := hl
  refine lv_iconst (v := 1) hx hb dX0_allRooms_0 (by decide) ?_
  refine lv_aload_n hx hb dX0_allRooms_1 rfl (lv_at hl 0 rfl) ?_
  refine va_get (D := D) (ci := 0) (v := .ref PL) (C := RX0) (T := TX0) (N := 5) hx hb hts iw_X0_allRooms_X0 hown hK hP 0 rfl rfl 0 (by decide) (hts (.fieldLink RX0 21 "SoldHouse$Floor" "plan" "LSoldHouse$Plan;") (List.mem_of_getElem? (i := 1) rfl)) (fun _ h9 => h9) rfl dX0_allRooms_2 ?_
  refine va_get (D := D) (ci := 5) (v := .int PL_rooms) (C := RX5) (T := TX5) (N := 16) hx hb hts iw_X0_allRooms_X5 hown hK hP 1 rfl rfl 0 (by decide) (hts (.fieldLink RX0 43 "SoldHouse$Plan" "rooms" "I") (List.mem_of_getElem? (i := 2) rfl)) (fun _ h9 => h9) rfl dX0_allRooms_5 ?_
  refine lv_ishl hx hb dX0_allRooms_8 ?_
  refine zi_top (a := 1) (b := 256) (zB_shl1 b_PL_rooms (by decide) (by decide) (by decide) (by decide)) (fun y8 by8 => ?_)
  refine lv_iconst (v := 1) hx hb dX0_allRooms_9 (by decide) ?_
  refine lv_isub hx hb dX0_allRooms_10 ?_
  refine zi_top2 (P := fun y => y.toInt = y8.toInt + (-1)) (a := 0) (b := 255) (zB_sub by8 (show zB 1 1 1 from ⟨by decide, by decide⟩) (by decide) (by decide) (by decide) (by decide)) (zR_subc by8 (by decide) (by decide) (by decide)) (fun y10 by10 ry10 => ?_)
  exact W.iret (v := y10) hx hb hr (fun t ht hW => ⟨y10, rfl, by10, ht⟩) (fun q hq => by cases hq) dX0_allRooms_11
set_option maxHeartbeats 4000000 in
set_option maxRecDepth 100000 in
theorem c_X0_creakingRooms (l : Launch) (D : va_G) (cI : ClassId) (cB : ClassId) (cL : ClassId) (cZ : ClassId) (cG : ClassId) (FL : Nat) (x0 : Int32) (PL : Nat) (aFL : Nat → Nat) (FL_parting : Int32) (PL_rooms : Int32) (aPL : Nat → Nat) (PL_doors : Int32) (PL_things : Int32) (FO : Nat) (PL_draw : Int32) (PL_drawTold : Int32) (PL_creaks : Nat → Int32) (b_PL_rooms : zB PL_rooms 0 8) (b_PL_doors : zB PL_doors 0 12) (b_PL_things : zB PL_things 0 6) : Met l yX0_creakingRooms wsX0_creakingRooms ({ frames := 0, cells := 0, slots := 0, locals := 0 }) (xr D [(cI, .int), (cB, .byte), (cL, .long), (cZ, .boolean), (cG, .array .int)] [(FL, .inr (0, oX0 PL aFL FL_parting)), (PL, .inr (5, oX5 FO aPL PL_rooms PL_doors PL_things PL_draw PL_drawTold)), ((aPL 2), .inl (cI, 8, .inl PL_creaks))] [.ref FL, .int x0]) (vp_Si (fun r => zB r 0 255)) 0 0 (fun _ => False) := by
  refine Met.ofW (cc := cX0_creakingRooms) (maxL := 4) (ret := (some .int)) (by decide) rfl ?_
  intro p e s m args below meth c s₁ B hml hv
  obtain ⟨rfl, hP, hK⟩ := hv
  have hx := B.exec
  have hb := B.bytes
  have hr := B.returns
  have hts := atoms_spec (ws := wsX0_creakingRooms) B.pre
  have hown : s.vm.findClass RX0 = some m.cls := findClass_of_methodNamed B.named
  have hlocks := B.notSynchronized
  clear B
  have hl := lv_entry ([.ref FL, .int x0]) (n := 4) (Nat.le_of_ble_eq_true rfl)
  rw [lg_entry_eq]
  generalize (lg_sl ([.ref FL, .int x0]) ++ List.replicate (4 - (lg_sl ([.ref FL, .int x0])).length) Slot.unset).toArray = ls at hl ⊢
  replace hl : lv_has ls 4 [(0, .ref FL), (1, .int x0)] := hl
  refine zz_abs (R := ({ frames := 0, cells := 0, slots := 0, locals := 0 } : Room)) (fun Q up => ?_)
  refine lv_iconst (v := 0) hx hb dX0_creakingRooms_0 (by decide) ?_
  refine lv_istore_n (lv' := [(2, .int 0), (0, .ref FL), (1, .int x0)]) hx hb dX0_creakingRooms_1 rfl hl (by decide) rfl (fun ls hl => ?_)
  refine lv_iconst (v := 0) hx hb dX0_creakingRooms_2 (by decide) ?_
  have j4 : ∀ (n4 : Nat) (ls : Array Slot) (v4_3 : Int32) (v4_2 : Int32), zB v4_3 0 8 → zB v4_2 0 255 → (8 + 1 - v4_3.toInt) ≤ (n4 : Int) → lv_has ls 4 [(3, .int v4_3), (2, .int v4_2), (0, .ref FL), (1, .int x0)] → W p l e ({ frames := 0, cells := 0, slots := 0, locals := 0 } : Room) s m ([.ref FL, .int x0] : List Value).toArray below meth c s.heap [] 0 0 Q (F0 m 4 ls []) := by
    intro n4
    induction n4 with
    | zero => intro ls v4_3 v4_2 bv4_3_k4 bv4_2_k4 hm4 hl; exact zM_u0 bv4_3_k4 hm4
    | succ n4 ih4 =>
      intro ls v4_3 v4_2 bv4_3_k4 bv4_2_k4 hm4 hl
      refine lv_iload_n hx hb dX0_creakingRooms_4 rfl (lv_at hl 0 rfl) ?_
      refine lv_aload_n hx hb dX0_creakingRooms_5 rfl (lv_at hl 2 rfl) ?_
      refine va_get (D := D) (ci := 0) (v := .ref PL) (C := RX0) (T := TX0) (N := 5) hx hb hts iw_X0_creakingRooms_X0 hown hK hP 0 rfl rfl 0 (by decide) (hts (.fieldLink RX0 21 "SoldHouse$Floor" "plan" "LSoldHouse$Plan;") (List.mem_of_getElem? (i := 1) rfl)) (fun _ h9 => h9) rfl dX0_creakingRooms_6 ?_
      refine va_get (D := D) (ci := 5) (v := .int PL_rooms) (C := RX5) (T := TX5) (N := 16) hx hb hts iw_X0_creakingRooms_X5 hown hK hP 1 rfl rfl 0 (by decide) (hts (.fieldLink RX0 43 "SoldHouse$Plan" "rooms" "I") (List.mem_of_getElem? (i := 2) rfl)) (fun _ h9 => h9) rfl dX0_creakingRooms_9 ?_
      refine lv_icmp_ge (tgt := 40) hx hb dX0_creakingRooms_12 (by decide) (fun c12 => ?_) (fun c12 => ?_)
      · refine lv_iload_n hx hb dX0_creakingRooms_40 rfl (lv_at hl 1 rfl) ?_
        exact up _ _ _ (W.iret (v := v4_2) hx hb hr (fun t ht hW => ⟨v4_2, rfl, bv4_2_k4, ht⟩) (fun q hq => by cases hq) dX0_creakingRooms_41)
      · have bx12f_v4_3 : zB v4_3 0 7 := zB_ltu (zf c12) bv4_3_k4 b_PL_rooms (by decide)
        have by12f_PL_rooms : zB PL_rooms 1 8 := zB_ltv (zf c12) bx12f_v4_3 b_PL_rooms (by decide)
        refine lv_aload_n hx hb dX0_creakingRooms_15 rfl (lv_at hl 2 rfl) ?_
        refine va_get (D := D) (ci := 0) (v := .ref PL) (C := RX0) (T := TX0) (N := 5) hx hb hts iw_X0_creakingRooms_X0 hown hK hP 0 rfl rfl 0 (by decide) (hts (.fieldLink RX0 21 "SoldHouse$Floor" "plan" "LSoldHouse$Plan;") (List.mem_of_getElem? (i := 1) rfl)) (fun _ h9 => h9) rfl dX0_creakingRooms_16 ?_
        refine va_get (D := D) (ci := 5) (v := .ref (aPL 2)) (C := RX5) (T := TX5) (N := 16) hx hb hts iw_X0_creakingRooms_X5 hown hK hP 1 rfl rfl 2 (by decide) (hts (.fieldLink RX0 88 "SoldHouse$Plan" "creaks" "[I") (List.mem_of_getElem? (i := 3) rfl)) (fun _ h9 => h9) rfl dX0_creakingRooms_19 ?_
        refine lv_iload_n hx hb dX0_creakingRooms_22 rfl (lv_at hl 0 rfl) ?_
        refine va_iald hx hb hK hP 2 0 rfl rfl (zB_in bx12f_v4_3 (by decide) (by decide)) dX0_creakingRooms_23 ?_
        refine lv_topi (fun y23 _ => ?_)
        refine lv_iload_n hx hb dX0_creakingRooms_24 rfl (lv_at hl 3 rfl) ?_
        have j34 : ∀ (ls : Array Slot) (v34_2 : Int32), zB v34_2 0 255 → lv_has ls 4 [(3, .int v4_3), (2, .int v34_2), (0, .ref FL), (1, .int x0)] → W p l e ({ frames := 0, cells := 0, slots := 0, locals := 0 } : Room) s m ([.ref FL, .int x0] : List Value).toArray below meth c s.heap [] 0 0 Q (F0 m 34 ls []) := by
          intro ls v34_2 bv34_2_k34 hl
          obtain ⟨y34, by34, ry34, ey34⟩ := zi_inc (x := v4_3) (k := 1) (a := 1) (b := 8) bx12f_v4_3 (by decide) (by decide) (by decide) (by decide) (by decide)
          refine lv_iinc (v := y34) (lv' := [(3, .int y34), (2, .int v34_2), (0, .ref FL), (1, .int x0)]) hx hb dX0_creakingRooms_34 hl (k := 0) rfl ey34 (by decide) rfl (fun ls hl => ?_)
          refine lv_goto (tgt := 4) hx hb dX0_creakingRooms_37 (by decide) ?_
          exact ih4 ls y34 v34_2 (zB_w by34 (by decide) (by decide)) bv34_2_k34 (zM_us (k := 1) hm4 ry34 (by decide)) (lv_sub hl [0, 1, 2, 3] rfl)
        refine lv_icmp_lt (tgt := 34) hx hb dX0_creakingRooms_25 (by decide) (fun c25 => ?_) (fun c25 => ?_)
        · have bx25t_y23 : zB y23 (-2147483648) 2147483646 := zB_ltu (zl c25) (zB_top y23) (zB_top x0) (by decide)
          have by25t_x0 : zB x0 (-2147483647) 2147483647 := zB_ltv (zl c25) bx25t_y23 (zB_top x0) (by decide)
          exact j34 ls v4_2 bv4_2_k4 (lv_sub hl [0, 1, 2, 3] rfl)
        · refine lv_iload_n hx hb dX0_creakingRooms_28 rfl (lv_at hl 1 rfl) ?_
          refine lv_iconst (v := 1) hx hb dX0_creakingRooms_29 (by decide) ?_
          refine lv_iload_n hx hb dX0_creakingRooms_30 rfl (lv_at hl 0 rfl) ?_
          refine lv_ishl hx hb dX0_creakingRooms_31 ?_
          refine zi_top (a := 1) (b := 128) (zB_shl1 bx12f_v4_3 (by decide) (by decide) (by decide) (by decide)) (fun y31 by31 => ?_)
          refine lv_ior hx hb dX0_creakingRooms_32 ?_
          refine zi_top (a := 1) (b := 255) (zB_or 8 bv4_2_k4 by31 (by decide) (by decide) (by decide) (by decide) (by decide) (by decide) (by decide)) (fun y32 by32 => ?_)
          refine lv_istore_n (lv' := [(2, .int y32), (3, .int v4_3), (0, .ref FL), (1, .int x0)]) hx hb dX0_creakingRooms_33 rfl hl (by decide) rfl (fun ls hl => ?_)
          exact j34 ls y32 (zB_w by32 (by decide) (by decide)) (lv_sub hl [1, 0, 2, 3] rfl)
  refine lv_istore_n (lv' := [(3, .int 0), (2, .int 0), (0, .ref FL), (1, .int x0)]) hx hb dX0_creakingRooms_3 rfl hl (by decide) rfl (fun ls hl => ?_)
  exact j4 9 ls 0 0 (zB_w (show zB 0 0 0 from ⟨by decide, by decide⟩) (by decide) (by decide)) (zB_w (show zB 0 0 0 from ⟨by decide, by decide⟩) (by decide) (by decide)) (zM_ui (show zB 0 0 0 from ⟨by decide, by decide⟩) (by decide)) (lv_sub hl [0, 1, 2, 3] rfl)
set_option maxHeartbeats 4000000 in
set_option maxRecDepth 100000 in
theorem c_X0_behindDoors (l : Launch) (D : va_G) (cI : ClassId) (cB : ClassId) (cL : ClassId) (cZ : ClassId) (cG : ClassId) (FL : Nat) (x0 : Int32) (PL : Nat) (aFL : Nat → Nat) (FL_parting : Int32) (PL_rooms : Int32) (aPL : Nat → Nat) (PL_doors : Int32) (PL_things : Int32) (FO : Nat) (PL_draw : Int32) (PL_drawTold : Int32) (FL_next : Nat → Int32) (b_PL_rooms : zB PL_rooms 0 8) (b_PL_doors : zB PL_doors 0 12) (b_PL_things : zB PL_things 0 6) : Met l yX0_behindDoors wsX0_behindDoors ({ frames := 0, cells := 0, slots := 0, locals := 0 }) (xr D [(cI, .int), (cB, .byte), (cL, .long), (cZ, .boolean), (cG, .array .int)] [(FL, .inr (0, oX0 PL aFL FL_parting)), (PL, .inr (5, oX5 FO aPL PL_rooms PL_doors PL_things PL_draw PL_drawTold)), ((aFL 1), .inl (cI, 8, .inl FL_next))] [.ref FL, .int x0]) (vp_Si (fun r => True)) 0 0 (fun _ => False) := by
  refine Met.ofW (cc := cX0_behindDoors) (maxL := 4) (ret := (some .int)) (by decide) rfl ?_
  intro p e s m args below meth c s₁ B hml hv
  obtain ⟨rfl, hP, hK⟩ := hv
  have hx := B.exec
  have hb := B.bytes
  have hr := B.returns
  have hts := atoms_spec (ws := wsX0_behindDoors) B.pre
  have hown : s.vm.findClass RX0 = some m.cls := findClass_of_methodNamed B.named
  have hlocks := B.notSynchronized
  clear B
  have hl := lv_entry ([.ref FL, .int x0]) (n := 4) (Nat.le_of_ble_eq_true rfl)
  rw [lg_entry_eq]
  generalize (lg_sl ([.ref FL, .int x0]) ++ List.replicate (4 - (lg_sl ([.ref FL, .int x0])).length) Slot.unset).toArray = ls at hl ⊢
  replace hl : lv_has ls 4 [(0, .ref FL), (1, .int x0)] := hl
  refine zz_abs (R := ({ frames := 0, cells := 0, slots := 0, locals := 0 } : Room)) (fun Q up => ?_)
  refine lv_iconst (v := 0) hx hb dX0_behindDoors_0 (by decide) ?_
  refine lv_istore_n (lv' := [(2, .int 0), (0, .ref FL), (1, .int x0)]) hx hb dX0_behindDoors_1 rfl hl (by decide) rfl (fun ls hl => ?_)
  refine lv_iconst (v := 0) hx hb dX0_behindDoors_2 (by decide) ?_
  have j4 : ∀ (n4 : Nat) (ls : Array Slot) (v4_3 : Int32) (v4_2 : Int32), zB v4_3 0 8 → (8 + 1 - v4_3.toInt) ≤ (n4 : Int) → lv_has ls 4 [(3, .int v4_3), (2, .int v4_2), (0, .ref FL), (1, .int x0)] → W p l e ({ frames := 0, cells := 0, slots := 0, locals := 0 } : Room) s m ([.ref FL, .int x0] : List Value).toArray below meth c s.heap [] 0 0 Q (F0 m 4 ls []) := by
    intro n4
    induction n4 with
    | zero => intro ls v4_3 v4_2 bv4_3_k4 hm4 hl; exact zM_u0 bv4_3_k4 hm4
    | succ n4 ih4 =>
      intro ls v4_3 v4_2 bv4_3_k4 hm4 hl
      refine lv_iload_n hx hb dX0_behindDoors_4 rfl (lv_at hl 0 rfl) ?_
      refine lv_aload_n hx hb dX0_behindDoors_5 rfl (lv_at hl 2 rfl) ?_
      refine va_get (D := D) (ci := 0) (v := .ref PL) (C := RX0) (T := TX0) (N := 5) hx hb hts iw_X0_behindDoors_X0 hown hK hP 0 rfl rfl 0 (by decide) (hts (.fieldLink RX0 21 "SoldHouse$Floor" "plan" "LSoldHouse$Plan;") (List.mem_of_getElem? (i := 1) rfl)) (fun _ h9 => h9) rfl dX0_behindDoors_6 ?_
      refine va_get (D := D) (ci := 5) (v := .int PL_rooms) (C := RX5) (T := TX5) (N := 16) hx hb hts iw_X0_behindDoors_X5 hown hK hP 1 rfl rfl 0 (by decide) (hts (.fieldLink RX0 43 "SoldHouse$Plan" "rooms" "I") (List.mem_of_getElem? (i := 2) rfl)) (fun _ h9 => h9) rfl dX0_behindDoors_9 ?_
      refine lv_icmp_ge (tgt := 39) hx hb dX0_behindDoors_12 (by decide) (fun c12 => ?_) (fun c12 => ?_)
      · refine lv_iload_n hx hb dX0_behindDoors_39 rfl (lv_at hl 1 rfl) ?_
        exact up _ _ _ (W.iret (v := v4_2) hx hb hr (fun t ht hW => ⟨v4_2, rfl, trivial, ht⟩) (fun q hq => by cases hq) dX0_behindDoors_40)
      · have bx12f_v4_3 : zB v4_3 0 7 := zB_ltu (zf c12) bv4_3_k4 b_PL_rooms (by decide)
        have by12f_PL_rooms : zB PL_rooms 1 8 := zB_ltv (zf c12) bx12f_v4_3 b_PL_rooms (by decide)
        refine lv_iload_n hx hb dX0_behindDoors_15 rfl (lv_at hl 3 rfl) ?_
        refine lv_iload_n hx hb dX0_behindDoors_16 rfl (lv_at hl 0 rfl) ?_
        refine lv_ishr hx hb dX0_behindDoors_17 ?_
        refine lv_topi (fun y17 _ => ?_)
        refine lv_iconst (v := 1) hx hb dX0_behindDoors_18 (by decide) ?_
        refine lv_iand hx hb dX0_behindDoors_19 ?_
        refine zi_top (a := 0) (b := 1) (zB_andr (show zB 1 1 1 from ⟨by decide, by decide⟩) (by decide)) (fun y19 by19 => ?_)
        refine lv_iconst (v := 1) hx hb dX0_behindDoors_20 (by decide) ?_
        have j33 : ∀ (ls : Array Slot) (v33_2 : Int32), lv_has ls 4 [(3, .int v4_3), (2, .int v33_2), (0, .ref FL), (1, .int x0)] → W p l e ({ frames := 0, cells := 0, slots := 0, locals := 0 } : Room) s m ([.ref FL, .int x0] : List Value).toArray below meth c s.heap [] 0 0 Q (F0 m 33 ls []) := by
          intro ls v33_2 hl
          obtain ⟨y33, by33, ry33, ey33⟩ := zi_inc (x := v4_3) (k := 1) (a := 1) (b := 8) bx12f_v4_3 (by decide) (by decide) (by decide) (by decide) (by decide)
          refine lv_iinc (v := y33) (lv' := [(3, .int y33), (2, .int v33_2), (0, .ref FL), (1, .int x0)]) hx hb dX0_behindDoors_33 hl (k := 0) rfl ey33 (by decide) rfl (fun ls hl => ?_)
          refine lv_goto (tgt := 4) hx hb dX0_behindDoors_36 (by decide) ?_
          exact ih4 ls y33 v33_2 (zB_w by33 (by decide) (by decide)) (zM_us (k := 1) hm4 ry33 (by decide)) (lv_sub hl [0, 1, 2, 3] rfl)
        refine lv_icmp_ne (tgt := 33) hx hb dX0_behindDoors_21 (by decide) (fun c21 => ?_) (fun c21 => ?_)
        · have bn21t_y19 : zB y19 0 0 := zB_neH c21 by19 (show zB 1 1 1 from ⟨by decide, by decide⟩) (by decide)
          exact j33 ls v4_2 (lv_sub hl [0, 1, 2, 3] rfl)
        · have be21f_y19 : zB y19 1 1 := zB_eq c21 by19 (show zB 1 1 1 from ⟨by decide, by decide⟩) (by decide) (by decide)
          refine lv_iload_n hx hb dX0_behindDoors_24 rfl (lv_at hl 1 rfl) ?_
          refine lv_aload_n hx hb dX0_behindDoors_25 rfl (lv_at hl 2 rfl) ?_
          refine va_get (D := D) (ci := 0) (v := .ref (aFL 1)) (C := RX0) (T := TX0) (N := 5) hx hb hts iw_X0_behindDoors_X0 hown hK hP 0 rfl rfl 1 (by decide) (hts (.fieldLink RX0 9 "SoldHouse$Floor" "next" "[I") (List.mem_of_getElem? (i := 3) rfl)) (fun _ h9 => h9) rfl dX0_behindDoors_26 ?_
          refine lv_iload_n hx hb dX0_behindDoors_29 rfl (lv_at hl 0 rfl) ?_
          refine va_iald hx hb hK hP 2 0 rfl rfl (zB_in bx12f_v4_3 (by decide) (by decide)) dX0_behindDoors_30 ?_
          refine lv_topi (fun y30 _ => ?_)
          refine lv_ior hx hb dX0_behindDoors_31 ?_
          refine lv_topi (fun y31 _ => ?_)
          refine lv_istore_n (lv' := [(2, .int y31), (3, .int v4_3), (0, .ref FL), (1, .int x0)]) hx hb dX0_behindDoors_32 rfl hl (by decide) rfl (fun ls hl => ?_)
          exact j33 ls y31 (lv_sub hl [1, 0, 2, 3] rfl)
  refine lv_istore_n (lv' := [(3, .int 0), (2, .int 0), (0, .ref FL), (1, .int x0)]) hx hb dX0_behindDoors_3 rfl hl (by decide) rfl (fun ls hl => ?_)
  exact j4 9 ls 0 0 (zB_w (show zB 0 0 0 from ⟨by decide, by decide⟩) (by decide) (by decide)) (zM_ui (show zB 0 0 0 from ⟨by decide, by decide⟩) (by decide)) (lv_sub hl [0, 1, 2, 3] rfl)
set_option maxHeartbeats 4000000 in
set_option maxRecDepth 100000 in
theorem c_X0_reach (l : Launch) (D : va_G) (cI : ClassId) (cB : ClassId) (cL : ClassId) (cZ : ClassId) (cG : ClassId) (FL : Nat) (x0 : Int32) (x1 : Int32) (PL : Nat) (aFL : Nat → Nat) (FL_parting : Int32) (PL_rooms : Int32) (aPL : Nat → Nat) (PL_doors : Int32) (PL_things : Int32) (FO : Nat) (PL_draw : Int32) (PL_drawTold : Int32) (FL_next : Nat → Int32) (b_PL_rooms : zB PL_rooms 0 8) (b_PL_doors : zB PL_doors 0 12) (b_PL_things : zB PL_things 0 6) : Met l yX0_reach wsX0_reach ({ frames := 1, cells := 0, slots := 0, locals := 23 }) (xr D [(cI, .int), (cB, .byte), (cL, .long), (cZ, .boolean), (cG, .array .int)] [(FL, .inr (0, oX0 PL aFL FL_parting)), (PL, .inr (5, oX5 FO aPL PL_rooms PL_doors PL_things PL_draw PL_drawTold)), ((aFL 1), .inl (cI, 8, .inl FL_next))] [.ref FL, .int x0, .int x1]) (vp_Si (fun r => True)) 0 0 (fun _ => False) := by
  refine Met.ofW (cc := cX0_reach) (maxL := 5) (ret := (some .int)) (by decide) rfl ?_
  intro p e s m args below meth c s₁ B hml hv
  obtain ⟨rfl, hP, hK⟩ := hv
  have hx := B.exec
  have hb := B.bytes
  have hr := B.returns
  have hts := atoms_spec (ws := wsX0_reach) B.pre
  have hown : s.vm.findClass RX0 = some m.cls := findClass_of_methodNamed B.named
  have hlocks := B.notSynchronized
  clear B
  have hl := lv_entry ([.ref FL, .int x0, .int x1]) (n := 5) (Nat.le_of_ble_eq_true rfl)
  rw [lg_entry_eq]
  generalize (lg_sl ([.ref FL, .int x0, .int x1]) ++ List.replicate (5 - (lg_sl ([.ref FL, .int x0, .int x1])).length) Slot.unset).toArray = ls at hl ⊢
  replace hl : lv_has ls 5 [(0, .ref FL), (1, .int x0), (2, .int x1)] := hl
  refine zz_abs (R := ({ frames := 1, cells := 0, slots := 0, locals := 23 } : Room)) (fun Q up => ?_)
  refine lv_iconst (v := 1) hx hb dX0_reach_0 (by decide) ?_
  refine lv_iload_n hx hb dX0_reach_1 rfl (lv_at hl 1 rfl) ?_
  refine lv_ishl hx hb dX0_reach_2 ?_
  refine lv_topi (fun y2 _ => ?_)
  refine lv_istore_n (lv' := [(3, .int y2), (0, .ref FL), (1, .int x0), (2, .int x1)]) hx hb dX0_reach_3 rfl hl (by decide) rfl (fun ls hl => ?_)
  refine lv_iconst (v := 0) hx hb dX0_reach_4 (by decide) ?_
  have j7 : ∀ (n7 : Nat) (ls : Array Slot) (v7_4 : Int32) (v7_3 : Int32), zB v7_4 0 8 → (8 + 1 - v7_4.toInt) ≤ (n7 : Int) → lv_has ls 5 [(4, .int v7_4), (3, .int v7_3), (0, .ref FL), (1, .int x0), (2, .int x1)] → W p l e ({ frames := 1, cells := 0, slots := 0, locals := 23 } : Room) s m ([.ref FL, .int x0, .int x1] : List Value).toArray below meth c s.heap [] 0 0 Q (F0 m 7 ls []) := by
    intro n7
    induction n7 with
    | zero => intro ls v7_4 v7_3 bv7_4_k7 hm7 hl; exact zM_u0 bv7_4_k7 hm7
    | succ n7 ih7 =>
      intro ls v7_4 v7_3 bv7_4_k7 hm7 hl
      refine lv_iload hx hb dX0_reach_7 (lv_at hl 0 rfl) ?_
      refine lv_bipush (v := 8) hx hb dX0_reach_9 (by decide) ?_
      refine lv_icmp_ge (tgt := 30) hx hb dX0_reach_11 (by decide) (fun c11 => ?_) (fun c11 => ?_)
      · have by11t_v7_4 : zB v7_4 8 8 := zB_lev (ze c11) (show zB 8 8 8 from ⟨by decide, by decide⟩) bv7_4_k7 (by decide)
        refine lv_iload_n hx hb dX0_reach_30 rfl (lv_at hl 1 rfl) ?_
        exact up _ _ _ (W.iret (v := v7_3) hx hb hr (fun t ht hW => ⟨v7_3, rfl, trivial, ht⟩) (fun q hq => by cases hq) dX0_reach_31)
      · have bx11f_v7_4 : zB v7_4 0 7 := zB_ltu (zf c11) bv7_4_k7 (show zB 8 8 8 from ⟨by decide, by decide⟩) (by decide)
        refine lv_iload_n hx hb dX0_reach_14 rfl (lv_at hl 1 rfl) ?_
        refine lv_aload_n hx hb dX0_reach_15 rfl (lv_at hl 2 rfl) ?_
        refine lv_iload_n hx hb dX0_reach_16 rfl (lv_at hl 1 rfl) ?_
        have hPc := hP.sub (ws' := [(FL, .inr (0, oX0 PL aFL FL_parting)), (PL, .inr (5, oX5 FO aPL PL_rooms PL_doors PL_things PL_draw PL_drawTold)), ((aFL 1), .inl (cI, 8, .inl FL_next))]) [0, 1, 2] rfl
        refine vp_callSi (va_runV (As := [.int v7_3]) (rest := [.int v7_3]) ⟨hx, hb, hml, hown, hts⟩ (c_X0_behindDoors l D cI cB cL cZ cG FL v7_3 PL aFL FL_parting PL_rooms aPL PL_doors PL_things FO PL_draw PL_drawTold FL_next b_PL_rooms b_PL_doors b_PL_things) (cwV 1 hts gX0_reach_X0_behindDoors rfl rfl rfl (by decide +kernel) ⟨Nat.le_of_ble_eq_true rfl, Nat.le_of_ble_eq_true rfl⟩) ⟨xr_blind, va_recv hK hP (ci := 0) (q0 := 0) rfl rfl, fun U hU hW => xr_mk hU hW hPc hK⟩ rfl rfl hl.1 rfl (lv_room (Nat.le_of_ble_eq_true rfl)) dX0_reach_17 ⟨Nat.le_of_ble_eq_true rfl, Nat.le_of_ble_eq_true rfl⟩).run (fun r17 hr17 => ?_)
        clear hPc
        clear hr17
        refine lv_iload_n hx hb dX0_reach_20 rfl (lv_at hl 4 rfl) ?_
        refine lv_iand hx hb dX0_reach_21 ?_
        refine lv_topi (fun y21 _ => ?_)
        refine lv_ior hx hb dX0_reach_22 ?_
        refine lv_topi (fun y22 _ => ?_)
        refine lv_istore_n (lv' := [(3, .int y22), (4, .int v7_4), (0, .ref FL), (1, .int x0), (2, .int x1)]) hx hb dX0_reach_23 rfl hl (by decide) rfl (fun ls hl => ?_)
        obtain ⟨y24, by24, ry24, ey24⟩ := zi_inc (x := v7_4) (k := 1) (a := 1) (b := 8) bx11f_v7_4 (by decide) (by decide) (by decide) (by decide) (by decide)
        refine lv_iinc (v := y24) (lv' := [(4, .int y24), (3, .int y22), (0, .ref FL), (1, .int x0), (2, .int x1)]) hx hb dX0_reach_24 hl (k := 1) rfl ey24 (by decide) rfl (fun ls hl => ?_)
        refine lv_goto (tgt := 7) hx hb dX0_reach_27 (by decide) ?_
        exact ih7 ls y24 y22 (zB_w by24 (by decide) (by decide)) (zM_us (k := 1) hm7 ry24 (by decide)) (lv_sub hl [0, 1, 2, 3, 4] rfl)
  refine lv_istore (lv' := [(4, .int 0), (3, .int y2), (0, .ref FL), (1, .int x0), (2, .int x1)]) hx hb dX0_reach_5 hl (by decide) rfl (fun ls hl => ?_)
  exact j7 9 ls 0 y2 (zB_w (show zB 0 0 0 from ⟨by decide, by decide⟩) (by decide) (by decide)) (zM_ui (show zB 0 0 0 from ⟨by decide, by decide⟩) (by decide)) (lv_sub hl [0, 1, 2, 3, 4] rfl)
set_option maxHeartbeats 4000000 in
set_option maxRecDepth 100000 in
theorem c_X0_countPieces (l : Launch) (D : va_G) (cI : ClassId) (cB : ClassId) (cL : ClassId) (cZ : ClassId) (cG : ClassId) (FL : Nat) (PL : Nat) (aFL : Nat → Nat) (FL_parting : Int32) (PL_rooms : Int32) (aPL : Nat → Nat) (PL_doors : Int32) (PL_things : Int32) (FO : Nat) (PL_draw : Int32) (PL_drawTold : Int32) (FL_next : Nat → Int32) (b_PL_rooms : zB PL_rooms 0 8) (b_PL_doors : zB PL_doors 0 12) (b_PL_things : zB PL_things 0 6) : Met l yX0_countPieces wsX0_countPieces ({ frames := 2, cells := 0, slots := 0, locals := 47 }) (xr D [(cI, .int), (cB, .byte), (cL, .long), (cZ, .boolean), (cG, .array .int)] [(FL, .inr (0, oX0 PL aFL FL_parting)), (PL, .inr (5, oX5 FO aPL PL_rooms PL_doors PL_things PL_draw PL_drawTold)), ((aFL 1), .inl (cI, 8, .inl FL_next))] [.ref FL]) (vp_Si (fun r => True)) 0 0 (fun _ => False) := by
  refine Met.ofW (cc := cX0_countPieces) (maxL := 4) (ret := (some .int)) (by decide) rfl ?_
  intro p e s m args below meth c s₁ B hml hv
  obtain ⟨rfl, hP, hK⟩ := hv
  have hx := B.exec
  have hb := B.bytes
  have hr := B.returns
  have hts := atoms_spec (ws := wsX0_countPieces) B.pre
  have hown : s.vm.findClass RX0 = some m.cls := findClass_of_methodNamed B.named
  have hlocks := B.notSynchronized
  clear B
  have hl := lv_entry ([.ref FL]) (n := 4) (Nat.le_of_ble_eq_true rfl)
  rw [lg_entry_eq]
  generalize (lg_sl ([.ref FL]) ++ List.replicate (4 - (lg_sl ([.ref FL])).length) Slot.unset).toArray = ls at hl ⊢
  replace hl : lv_has ls 4 [(0, .ref FL)] := hl
  refine zz_abs (R := ({ frames := 2, cells := 0, slots := 0, locals := 47 } : Room)) (fun Q up => ?_)
  refine lv_iconst (v := 0) hx hb dX0_countPieces_0 (by decide) ?_
  refine lv_istore_n (lv' := [(1, .int 0), (0, .ref FL)]) hx hb dX0_countPieces_1 rfl hl (by decide) rfl (fun ls hl => ?_)
  refine lv_aload_n hx hb dX0_countPieces_2 rfl (lv_at hl 1 rfl) ?_
  have hPc := hP.sub (ws' := [(FL, .inr (0, oX0 PL aFL FL_parting)), (PL, .inr (5, oX5 FO aPL PL_rooms PL_doors PL_things PL_draw PL_drawTold))]) [0, 1] rfl
  refine vp_callSi (va_runV (As := []) (rest := []) ⟨hx, hb, hml, hown, hts⟩ (c_X0_allRooms l D cI cB cL cZ cG FL PL aFL FL_parting PL_rooms aPL PL_doors PL_things FO PL_draw PL_drawTold b_PL_rooms b_PL_doors b_PL_things) (cwV 0 hts gX0_countPieces_X0_allRooms rfl rfl rfl (by decide +kernel) ⟨Nat.le_of_ble_eq_true rfl, Nat.le_of_ble_eq_true rfl⟩) ⟨xr_blind, va_recv hK hP (ci := 0) (q0 := 0) rfl rfl, fun U hU hW => xr_mk hU hW hPc hK⟩ rfl rfl hl.1 rfl (lv_room (Nat.le_of_ble_eq_true rfl)) dX0_countPieces_3 ⟨Nat.le_of_ble_eq_true rfl, Nat.le_of_ble_eq_true rfl⟩).run (fun r3 hr3 => ?_)
  clear hPc
  refine lv_istore_n (lv' := [(2, .int r3), (1, .int 0), (0, .ref FL)]) hx hb dX0_countPieces_6 rfl hl (by decide) rfl (fun ls hl => ?_)
  refine lv_iconst (v := 0) hx hb dX0_countPieces_7 (by decide) ?_
  have j9 : ∀ (n9 : Nat) (ls : Array Slot) (v9_3 : Int32) (v9_2 : Int32) (v9_1 : Int32), zB v9_3 0 8 → zB v9_2 0 255 → (8 + 1 - v9_3.toInt) ≤ (n9 : Int) → lv_has ls 4 [(3, .int v9_3), (2, .int v9_2), (1, .int v9_1), (0, .ref FL)] → W p l e ({ frames := 2, cells := 0, slots := 0, locals := 47 } : Room) s m ([.ref FL] : List Value).toArray below meth c s.heap [] 0 0 Q (F0 m 9 ls []) := by
    intro n9
    induction n9 with
    | zero => intro ls v9_3 v9_2 v9_1 bv9_3_k9 bv9_2_k9 hm9 hl; exact zM_u0 bv9_3_k9 hm9
    | succ n9 ih9 =>
      intro ls v9_3 v9_2 v9_1 bv9_3_k9 bv9_2_k9 hm9 hl
      refine lv_iload_n hx hb dX0_countPieces_9 rfl (lv_at hl 0 rfl) ?_
      refine lv_aload_n hx hb dX0_countPieces_10 rfl (lv_at hl 3 rfl) ?_
      refine va_get (D := D) (ci := 0) (v := .ref PL) (C := RX0) (T := TX0) (N := 5) hx hb hts iw_X0_countPieces_X0 hown hK hP 0 rfl rfl 0 (by decide) (hts (.fieldLink RX0 21 "SoldHouse$Floor" "plan" "LSoldHouse$Plan;") (List.mem_of_getElem? (i := 1) rfl)) (fun _ h9 => h9) rfl dX0_countPieces_11 ?_
      refine va_get (D := D) (ci := 5) (v := .int PL_rooms) (C := RX5) (T := TX5) (N := 16) hx hb hts iw_X0_countPieces_X5 hown hK hP 1 rfl rfl 0 (by decide) (hts (.fieldLink RX0 43 "SoldHouse$Plan" "rooms" "I") (List.mem_of_getElem? (i := 2) rfl)) (fun _ h9 => h9) rfl dX0_countPieces_14 ?_
      refine lv_icmp_ge (tgt := 52) hx hb dX0_countPieces_17 (by decide) (fun c17 => ?_) (fun c17 => ?_)
      · refine lv_iload_n hx hb dX0_countPieces_52 rfl (lv_at hl 2 rfl) ?_
        exact up _ _ _ (W.iret (v := v9_1) hx hb hr (fun t ht hW => ⟨v9_1, rfl, trivial, ht⟩) (fun q hq => by cases hq) dX0_countPieces_53)
      · have bx17f_v9_3 : zB v9_3 0 7 := zB_ltu (zf c17) bv9_3_k9 b_PL_rooms (by decide)
        have by17f_PL_rooms : zB PL_rooms 1 8 := zB_ltv (zf c17) bx17f_v9_3 b_PL_rooms (by decide)
        refine lv_iload_n hx hb dX0_countPieces_20 rfl (lv_at hl 1 rfl) ?_
        refine lv_iload_n hx hb dX0_countPieces_21 rfl (lv_at hl 0 rfl) ?_
        refine lv_ishr hx hb dX0_countPieces_22 ?_
        refine zi_top (a := 0) (b := 255) (zB_shr bv9_2_k9 (by decide)) (fun y22 by22 => ?_)
        refine lv_iconst (v := 1) hx hb dX0_countPieces_23 (by decide) ?_
        refine lv_iand hx hb dX0_countPieces_24 ?_
        refine zi_top (a := 0) (b := 1) (zB_andr (show zB 1 1 1 from ⟨by decide, by decide⟩) (by decide)) (fun y24 by24 => ?_)
        refine lv_iconst (v := 1) hx hb dX0_countPieces_25 (by decide) ?_
        have j46 : ∀ (ls : Array Slot) (v46_2 : Int32) (v46_1 : Int32), zB v46_2 0 255 → lv_has ls 4 [(3, .int v9_3), (2, .int v46_2), (1, .int v46_1), (0, .ref FL)] → W p l e ({ frames := 2, cells := 0, slots := 0, locals := 47 } : Room) s m ([.ref FL] : List Value).toArray below meth c s.heap [] 0 0 Q (F0 m 46 ls []) := by
          intro ls v46_2 v46_1 bv46_2_k46 hl
          obtain ⟨y46, by46, ry46, ey46⟩ := zi_inc (x := v9_3) (k := 1) (a := 1) (b := 8) bx17f_v9_3 (by decide) (by decide) (by decide) (by decide) (by decide)
          refine lv_iinc (v := y46) (lv' := [(3, .int y46), (2, .int v46_2), (1, .int v46_1), (0, .ref FL)]) hx hb dX0_countPieces_46 hl (k := 0) rfl ey46 (by decide) rfl (fun ls hl => ?_)
          refine lv_goto (tgt := 9) hx hb dX0_countPieces_49 (by decide) ?_
          exact ih9 ls y46 v46_2 v46_1 (zB_w by46 (by decide) (by decide)) bv46_2_k46 (zM_us (k := 1) hm9 ry46 (by decide)) (lv_sub hl [0, 1, 2, 3] rfl)
        refine lv_icmp_ne (tgt := 46) hx hb dX0_countPieces_26 (by decide) (fun c26 => ?_) (fun c26 => ?_)
        · have bn26t_y24 : zB y24 0 0 := zB_neH c26 by24 (show zB 1 1 1 from ⟨by decide, by decide⟩) (by decide)
          exact j46 ls v9_2 v9_1 bv9_2_k9 (lv_sub hl [0, 1, 2, 3] rfl)
        · have be26f_y24 : zB y24 1 1 := zB_eq c26 by24 (show zB 1 1 1 from ⟨by decide, by decide⟩) (by decide) (by decide)
          obtain ⟨y29, ey29⟩ : ∃ y : Int32, v9_1 + Int32.ofInt 1 = y := ⟨_, rfl⟩
          refine lv_iinc (v := y29) (lv' := [(1, .int y29), (3, .int v9_3), (2, .int v9_2), (0, .ref FL)]) hx hb dX0_countPieces_29 hl (k := 2) rfl ey29 (by decide) rfl (fun ls hl => ?_)
          refine lv_iload_n hx hb dX0_countPieces_32 rfl (lv_at hl 2 rfl) ?_
          refine lv_aload_n hx hb dX0_countPieces_33 rfl (lv_at hl 3 rfl) ?_
          refine lv_iload_n hx hb dX0_countPieces_34 rfl (lv_at hl 1 rfl) ?_
          refine lv_aload_n hx hb dX0_countPieces_35 rfl (lv_at hl 3 rfl) ?_
          have hPc := hP.sub (ws' := [(FL, .inr (0, oX0 PL aFL FL_parting)), (PL, .inr (5, oX5 FO aPL PL_rooms PL_doors PL_things PL_draw PL_drawTold))]) [0, 1] rfl
          refine vp_callSi (va_runV (As := []) (rest := [.int v9_3, .ref FL, .int v9_2]) ⟨hx, hb, hml, hown, hts⟩ (c_X0_allRooms l D cI cB cL cZ cG FL PL aFL FL_parting PL_rooms aPL PL_doors PL_things FO PL_draw PL_drawTold (zB_w by17f_PL_rooms (by decide) (by decide)) b_PL_doors b_PL_things) (cwV 0 hts gX0_countPieces_X0_allRooms rfl rfl rfl (by decide +kernel) ⟨Nat.le_of_ble_eq_true rfl, Nat.le_of_ble_eq_true rfl⟩) ⟨xr_blind, va_recv hK hP (ci := 0) (q0 := 0) rfl rfl, fun U hU hW => xr_mk hU hW hPc hK⟩ rfl rfl hl.1 rfl (lv_room (Nat.le_of_ble_eq_true rfl)) dX0_countPieces_36 ⟨Nat.le_of_ble_eq_true rfl, Nat.le_of_ble_eq_true rfl⟩).run (fun r36 hr36 => ?_)
          clear hPc
          have hPc := hP.sub (ws' := [(FL, .inr (0, oX0 PL aFL FL_parting)), (PL, .inr (5, oX5 FO aPL PL_rooms PL_doors PL_things PL_draw PL_drawTold)), ((aFL 1), .inl (cI, 8, .inl FL_next))]) [0, 1, 2] rfl
          refine vp_callSi (va_runV (As := [.int v9_3, .int r36]) (rest := [.int v9_2]) ⟨hx, hb, hml, hown, hts⟩ (c_X0_reach l D cI cB cL cZ cG FL v9_3 r36 PL aFL FL_parting PL_rooms aPL PL_doors PL_things FO PL_draw PL_drawTold FL_next (zB_w by17f_PL_rooms (by decide) (by decide)) b_PL_doors b_PL_things) (cwV 2 hts gX0_countPieces_X0_reach rfl rfl rfl (by decide +kernel) ⟨Nat.le_of_ble_eq_true rfl, Nat.le_of_ble_eq_true rfl⟩) ⟨xr_blind, va_recv hK hP (ci := 0) (q0 := 0) rfl rfl, fun U hU hW => xr_mk hU hW hPc hK⟩ rfl rfl hl.1 rfl (lv_room (Nat.le_of_ble_eq_true rfl)) dX0_countPieces_39 ⟨Nat.le_of_ble_eq_true rfl, Nat.le_of_ble_eq_true rfl⟩).run (fun r39 hr39 => ?_)
          clear hPc
          clear hr39
          refine lv_iconst (v := (-1)) hx hb dX0_countPieces_42 (by decide) ?_
          refine lv_ixor hx hb dX0_countPieces_43 ?_
          refine lv_topi (fun y43 _ => ?_)
          refine lv_iand hx hb dX0_countPieces_44 ?_
          refine zi_top (a := 0) (b := 255) (zB_andl bv9_2_k9 (by decide)) (fun y44 by44 => ?_)
          refine lv_istore_n (lv' := [(2, .int y44), (1, .int y29), (3, .int v9_3), (0, .ref FL)]) hx hb dX0_countPieces_45 rfl hl (by decide) rfl (fun ls hl => ?_)
          exact j46 ls y44 y29 by44 (lv_sub hl [2, 0, 1, 3] rfl)
  refine lv_istore_n (lv' := [(3, .int 0), (2, .int r3), (1, .int 0), (0, .ref FL)]) hx hb dX0_countPieces_8 rfl hl (by decide) rfl (fun ls hl => ?_)
  exact j9 9 ls 0 r3 0 (zB_w (show zB 0 0 0 from ⟨by decide, by decide⟩) (by decide) (by decide)) hr3 (zM_ui (show zB 0 0 0 from ⟨by decide, by decide⟩) (by decide)) (lv_sub hl [0, 1, 2, 3] rfl)
set_option maxHeartbeats 4000000 in
set_option maxRecDepth 100000 in
theorem c_X0_farOf (l : Launch) (D : va_G) (cI : ClassId) (cB : ClassId) (cL : ClassId) (cZ : ClassId) (cG : ClassId) (FL : Nat) (x0 : Int32) (x1 : Int32) (PL : Nat) (aFL : Nat → Nat) (FL_parting : Int32) (FL_far : Nat → Int32) (b_x0 : zB x0 0 7) (b_x1 : zB x1 0 7) (s_FL_far_0 : zA FL_far 0 64 (-1) 7) : Met l yX0_farOf wsX0_farOf ({ frames := 0, cells := 0, slots := 0, locals := 0 }) (xr D [(cI, .int), (cB, .byte), (cL, .long), (cZ, .boolean), (cG, .array .int)] [(FL, .inr (0, oX0 PL aFL FL_parting)), ((aFL 2), .inl (cI, 64, .inl FL_far))] [.ref FL, .int x0, .int x1]) (vp_Si (fun r => zB r (-1) 7)) 0 0 (fun _ => False) := by
  refine Met.ofW (cc := cX0_farOf) (maxL := 3) (ret := (some .int)) (by decide) rfl ?_
  intro p e s m args below meth c s₁ B hml hv
  obtain ⟨rfl, hP, hK⟩ := hv
  have hx := B.exec
  have hb := B.bytes
  have hr := B.returns
  have hts := atoms_spec (ws := wsX0_farOf) B.pre
  have hown : s.vm.findClass RX0 = some m.cls := findClass_of_methodNamed B.named
  have hlocks := B.notSynchronized
  clear B
  have hl := lv_entry ([.ref FL, .int x0, .int x1]) (n := 3) (Nat.le_of_ble_eq_true rfl)
  rw [lg_entry_eq]
  generalize (lg_sl ([.ref FL, .int x0, .int x1]) ++ List.replicate (3 - (lg_sl ([.ref FL, .int x0, .int x1])).length) Slot.unset).toArray = ls at hl ⊢
  replace hl : lv_has ls 3 [(0, .ref FL), (1, .int x0), (2, .int x1)] := hl
  refine lv_aload_n hx hb dX0_farOf_0 rfl (lv_at hl 0 rfl) ?_
  refine va_get (D := D) (ci := 0) (v := .ref (aFL 2)) (C := RX0) (T := TX0) (N := 5) hx hb hts iw_X0_farOf_X0 hown hK hP 0 rfl rfl 2 (by decide) (hts (.fieldLink RX0 15 "SoldHouse$Floor" "far" "[I") (List.mem_of_getElem? (i := 1) rfl)) (fun _ h9 => h9) rfl dX0_farOf_1 ?_
  refine lv_iload_n hx hb dX0_farOf_4 rfl (lv_at hl 1 rfl) ?_
  refine lv_bipush (v := 8) hx hb dX0_farOf_5 (by decide) ?_
  refine lv_imul hx hb dX0_farOf_7 ?_
  refine zi_top (a := 0) (b := 56) (zB_mul b_x0 (show zB 8 8 8 from ⟨by decide, by decide⟩) (by decide) (by decide) (by decide) (by decide) (by decide)) (fun y7 by7 => ?_)
  refine lv_iload_n hx hb dX0_farOf_8 rfl (lv_at hl 2 rfl) ?_
  refine lv_iadd hx hb dX0_farOf_9 ?_
  refine zi_top (a := 0) (b := 63) (zB_add by7 b_x1 (by decide) (by decide) (by decide) (by decide)) (fun y9 by9 => ?_)
  refine va_iald hx hb hK hP 1 0 rfl rfl (zB_in by9 (by decide) (by decide)) dX0_farOf_10 ?_
  refine zi_top (a := (-1)) (b := 7) (zA_at s_FL_far_0 by9 (by decide) (by decide)) (fun y10 by10 => ?_)
  exact W.iret (v := y10) hx hb hr (fun t ht hW => ⟨y10, rfl, by10, ht⟩) (fun q hq => by cases hq) dX0_farOf_11
set_option maxHeartbeats 4000000 in
set_option maxRecDepth 100000 in
theorem c_X0_farthestFrom (l : Launch) (D : va_G) (cI : ClassId) (cB : ClassId) (cL : ClassId) (cZ : ClassId) (cG : ClassId) (FL : Nat) (x0 : Int32) (PL : Nat) (aFL : Nat → Nat) (FL_parting : Int32) (PL_rooms : Int32) (aPL : Nat → Nat) (PL_doors : Int32) (PL_things : Int32) (FO : Nat) (PL_draw : Int32) (PL_drawTold : Int32) (FL_far : Nat → Int32) (b_x0 : zB x0 0 7) (b_PL_rooms : zB PL_rooms 0 8) (b_PL_doors : zB PL_doors 0 12) (b_PL_things : zB PL_things 0 6) (s_FL_far_0 : zA FL_far 0 64 (-1) 7) : Met l yX0_farthestFrom wsX0_farthestFrom ({ frames := 1, cells := 0, slots := 0, locals := 22 }) (xr D [(cI, .int), (cB, .byte), (cL, .long), (cZ, .boolean), (cG, .array .int)] [(FL, .inr (0, oX0 PL aFL FL_parting)), (PL, .inr (5, oX5 FO aPL PL_rooms PL_doors PL_things PL_draw PL_drawTold)), ((aFL 2), .inl (cI, 64, .inl FL_far))] [.ref FL, .int x0]) (vp_Si (fun r => zB r 0 7)) 0 0 (fun _ => False) := by
  refine Met.ofW (cc := cX0_farthestFrom) (maxL := 4) (ret := (some .int)) (by decide) rfl ?_
  intro p e s m args below meth c s₁ B hml hv
  obtain ⟨rfl, hP, hK⟩ := hv
  have hx := B.exec
  have hb := B.bytes
  have hr := B.returns
  have hts := atoms_spec (ws := wsX0_farthestFrom) B.pre
  have hown : s.vm.findClass RX0 = some m.cls := findClass_of_methodNamed B.named
  have hlocks := B.notSynchronized
  clear B
  have hl := lv_entry ([.ref FL, .int x0]) (n := 4) (Nat.le_of_ble_eq_true rfl)
  rw [lg_entry_eq]
  generalize (lg_sl ([.ref FL, .int x0]) ++ List.replicate (4 - (lg_sl ([.ref FL, .int x0])).length) Slot.unset).toArray = ls at hl ⊢
  replace hl : lv_has ls 4 [(0, .ref FL), (1, .int x0)] := hl
  refine zz_abs (R := ({ frames := 1, cells := 0, slots := 0, locals := 22 } : Room)) (fun Q up => ?_)
  refine lv_iconst (v := 0) hx hb dX0_farthestFrom_0 (by decide) ?_
  refine lv_istore_n (lv' := [(2, .int 0), (0, .ref FL), (1, .int x0)]) hx hb dX0_farthestFrom_1 rfl hl (by decide) rfl (fun ls hl => ?_)
  refine lv_iconst (v := 0) hx hb dX0_farthestFrom_2 (by decide) ?_
  have j4 : ∀ (n4 : Nat) (ls : Array Slot) (v4_3 : Int32) (v4_2 : Int32), zB v4_3 0 8 → zB v4_2 0 7 → zA FL_far 0 64 (-1) 7 → (8 + 1 - v4_3.toInt) ≤ (n4 : Int) → lv_has ls 4 [(3, .int v4_3), (2, .int v4_2), (0, .ref FL), (1, .int x0)] → W p l e ({ frames := 1, cells := 0, slots := 0, locals := 22 } : Room) s m ([.ref FL, .int x0] : List Value).toArray below meth c s.heap [] 0 0 Q (F0 m 4 ls []) := by
    intro n4
    induction n4 with
    | zero => intro ls v4_3 v4_2 bv4_3_k4 bv4_2_k4 sFL_far_0_k4 hm4 hl; exact zM_u0 bv4_3_k4 hm4
    | succ n4 ih4 =>
      intro ls v4_3 v4_2 bv4_3_k4 bv4_2_k4 sFL_far_0_k4 hm4 hl
      refine lv_iload_n hx hb dX0_farthestFrom_4 rfl (lv_at hl 0 rfl) ?_
      refine lv_aload_n hx hb dX0_farthestFrom_5 rfl (lv_at hl 2 rfl) ?_
      refine va_get (D := D) (ci := 0) (v := .ref PL) (C := RX0) (T := TX0) (N := 5) hx hb hts iw_X0_farthestFrom_X0 hown hK hP 0 rfl rfl 0 (by decide) (hts (.fieldLink RX0 21 "SoldHouse$Floor" "plan" "LSoldHouse$Plan;") (List.mem_of_getElem? (i := 1) rfl)) (fun _ h9 => h9) rfl dX0_farthestFrom_6 ?_
      refine va_get (D := D) (ci := 5) (v := .int PL_rooms) (C := RX5) (T := TX5) (N := 16) hx hb hts iw_X0_farthestFrom_X5 hown hK hP 1 rfl rfl 0 (by decide) (hts (.fieldLink RX0 43 "SoldHouse$Plan" "rooms" "I") (List.mem_of_getElem? (i := 2) rfl)) (fun _ h9 => h9) rfl dX0_farthestFrom_9 ?_
      refine lv_icmp_ge (tgt := 32) hx hb dX0_farthestFrom_12 (by decide) (fun c12 => ?_) (fun c12 => ?_)
      · refine lv_iload_n hx hb dX0_farthestFrom_32 rfl (lv_at hl 1 rfl) ?_
        exact up _ _ _ (W.iret (v := v4_2) hx hb hr (fun t ht hW => ⟨v4_2, rfl, bv4_2_k4, ht⟩) (fun q hq => by cases hq) dX0_farthestFrom_33)
      · have bx12f_v4_3 : zB v4_3 0 7 := zB_ltu (zf c12) bv4_3_k4 b_PL_rooms (by decide)
        have by12f_PL_rooms : zB PL_rooms 1 8 := zB_ltv (zf c12) bx12f_v4_3 b_PL_rooms (by decide)
        refine lv_iload_n hx hb dX0_farthestFrom_15 rfl (lv_at hl 1 rfl) ?_
        refine lv_aload_n hx hb dX0_farthestFrom_16 rfl (lv_at hl 2 rfl) ?_
        refine lv_iload_n hx hb dX0_farthestFrom_17 rfl (lv_at hl 3 rfl) ?_
        refine lv_iload_n hx hb dX0_farthestFrom_18 rfl (lv_at hl 0 rfl) ?_
        have hPc := hP.sub (ws' := [(FL, .inr (0, oX0 PL aFL FL_parting)), ((aFL 2), .inl (cI, 64, .inl FL_far))]) [0, 2] rfl
        refine vp_callSi (va_runV (As := [.int x0, .int v4_3]) (rest := [.int v4_2]) ⟨hx, hb, hml, hown, hts⟩ (c_X0_farOf l D cI cB cL cZ cG FL x0 v4_3 PL aFL FL_parting FL_far b_x0 bx12f_v4_3 sFL_far_0_k4) (cwV 2 hts gX0_farthestFrom_X0_farOf rfl rfl rfl (by decide +kernel) ⟨Nat.le_of_ble_eq_true rfl, Nat.le_of_ble_eq_true rfl⟩) ⟨xr_blind, va_recv hK hP (ci := 0) (q0 := 0) rfl rfl, fun U hU hW => xr_mk hU hW hPc hK⟩ rfl rfl hl.1 rfl (lv_room (Nat.le_of_ble_eq_true rfl)) dX0_farthestFrom_19 ⟨Nat.le_of_ble_eq_true rfl, Nat.le_of_ble_eq_true rfl⟩).run (fun r19 hr19 => ?_)
        clear hPc
        refine va_mmax hx hb (by rw [hml]; exact hl.1.symm) hown (hts (.methodLink RX0 71 Lib.Math.max.name) (List.mem_of_getElem? (i := 3) rfl)) (hts (.static Lib.Math.max.name) (List.mem_of_getElem? (i := 4) rfl)) (hts (.initialized "java/lang/Math") (List.mem_of_getElem? (i := 5) rfl)) (hts (.code Lib.Math.max.name Lib.Math.max.code 2 (some .int)) (List.mem_of_getElem? (i := 6) rfl)) (Nat.le_of_ble_eq_true rfl) (Nat.le_of_ble_eq_true rfl) (Nat.le_of_ble_eq_true rfl) (Nat.le_of_ble_eq_true rfl) dX0_farthestFrom_22 ?_
        refine zi_top (a := 0) (b := 7) (zB_max bv4_2_k4 hr19 (by decide) (by decide)) (fun y22 by22 => ?_)
        refine lv_istore_n (lv' := [(2, .int y22), (3, .int v4_3), (0, .ref FL), (1, .int x0)]) hx hb dX0_farthestFrom_25 rfl hl (by decide) rfl (fun ls hl => ?_)
        obtain ⟨y26, by26, ry26, ey26⟩ := zi_inc (x := v4_3) (k := 1) (a := 1) (b := 8) bx12f_v4_3 (by decide) (by decide) (by decide) (by decide) (by decide)
        refine lv_iinc (v := y26) (lv' := [(3, .int y26), (2, .int y22), (0, .ref FL), (1, .int x0)]) hx hb dX0_farthestFrom_26 hl (k := 1) rfl ey26 (by decide) rfl (fun ls hl => ?_)
        refine lv_goto (tgt := 4) hx hb dX0_farthestFrom_29 (by decide) ?_
        exact ih4 ls y26 y22 (zB_w by26 (by decide) (by decide)) by22 sFL_far_0_k4 (zM_us (k := 1) hm4 ry26 (by decide)) (lv_sub hl [0, 1, 2, 3] rfl)
  refine lv_istore_n (lv' := [(3, .int 0), (2, .int 0), (0, .ref FL), (1, .int x0)]) hx hb dX0_farthestFrom_3 rfl hl (by decide) rfl (fun ls hl => ?_)
  exact j4 9 ls 0 0 (zB_w (show zB 0 0 0 from ⟨by decide, by decide⟩) (by decide) (by decide)) (zB_w (show zB 0 0 0 from ⟨by decide, by decide⟩) (by decide) (by decide)) s_FL_far_0 (zM_ui (show zB 0 0 0 from ⟨by decide, by decide⟩) (by decide)) (lv_sub hl [0, 1, 2, 3] rfl)
set_option maxHeartbeats 4000000 in
set_option maxRecDepth 100000 in
theorem c_X0_middleRoom (l : Launch) (D : va_G) (cI : ClassId) (cB : ClassId) (cL : ClassId) (cZ : ClassId) (cG : ClassId) (FL : Nat) (PL : Nat) (aFL : Nat → Nat) (FL_parting : Int32) (PL_rooms : Int32) (aPL : Nat → Nat) (PL_doors : Int32) (PL_things : Int32) (FO : Nat) (PL_draw : Int32) (PL_drawTold : Int32) (FL_far : Nat → Int32) (b_PL_rooms : zB PL_rooms 0 8) (b_PL_doors : zB PL_doors 0 12) (b_PL_things : zB PL_things 0 6) (s_FL_far_0 : zA FL_far 0 64 (-1) 7) : Met l yX0_middleRoom wsX0_middleRoom ({ frames := 2, cells := 0, slots := 0, locals := 45 }) (xr D [(cI, .int), (cB, .byte), (cL, .long), (cZ, .boolean), (cG, .array .int)] [(FL, .inr (0, oX0 PL aFL FL_parting)), (PL, .inr (5, oX5 FO aPL PL_rooms PL_doors PL_things PL_draw PL_drawTold)), ((aFL 2), .inl (cI, 64, .inl FL_far))] [.ref FL]) (vp_Si (fun r => zB r (-1) 7)) 0 0 (fun _ => False) := by
  refine Met.ofW (cc := cX0_middleRoom) (maxL := 5) (ret := (some .int)) (by decide) rfl ?_
  intro p e s m args below meth c s₁ B hml hv
  obtain ⟨rfl, hP, hK⟩ := hv
  have hx := B.exec
  have hb := B.bytes
  have hr := B.returns
  have hts := atoms_spec (ws := wsX0_middleRoom) B.pre
  have hown : s.vm.findClass RX0 = some m.cls := findClass_of_methodNamed B.named
  have hlocks := B.notSynchronized
  clear B
  have hl := lv_entry ([.ref FL]) (n := 5) (Nat.le_of_ble_eq_true rfl)
  rw [lg_entry_eq]
  generalize (lg_sl ([.ref FL]) ++ List.replicate (5 - (lg_sl ([.ref FL])).length) Slot.unset).toArray = ls at hl ⊢
  replace hl : lv_has ls 5 [(0, .ref FL)] := hl
  refine zz_abs (R := ({ frames := 2, cells := 0, slots := 0, locals := 45 } : Room)) (fun Q up => ?_)
  refine lv_iconst (v := (-1)) hx hb dX0_middleRoom_0 (by decide) ?_
  refine lv_istore_n (lv' := [(1, .int (-1)), (0, .ref FL)]) hx hb dX0_middleRoom_1 rfl hl (by decide) rfl (fun ls hl => ?_)
  refine lv_bipush (v := 8) hx hb dX0_middleRoom_2 (by decide) ?_
  refine lv_istore_n (lv' := [(2, .int 8), (1, .int (-1)), (0, .ref FL)]) hx hb dX0_middleRoom_4 rfl hl (by decide) rfl (fun ls hl => ?_)
  refine lv_iconst (v := 0) hx hb dX0_middleRoom_5 (by decide) ?_
  have j7 : ∀ (n7 : Nat) (ls : Array Slot) (v7_3 : Int32) (v7_2 : Int32) (v7_1 : Int32), zB v7_3 0 8 → zB v7_2 0 8 → zB v7_1 (-1) 7 → zA FL_far 0 64 (-1) 7 → (8 + 1 - v7_3.toInt) ≤ (n7 : Int) → lv_has ls 5 [(3, .int v7_3), (2, .int v7_2), (1, .int v7_1), (0, .ref FL)] → W p l e ({ frames := 2, cells := 0, slots := 0, locals := 45 } : Room) s m ([.ref FL] : List Value).toArray below meth c s.heap [] 0 0 Q (F0 m 7 ls []) := by
    intro n7
    induction n7 with
    | zero => intro ls v7_3 v7_2 v7_1 bv7_3_k7 bv7_2_k7 bv7_1_k7 sFL_far_0_k7 hm7 hl; exact zM_u0 bv7_3_k7 hm7
    | succ n7 ih7 =>
      intro ls v7_3 v7_2 v7_1 bv7_3_k7 bv7_2_k7 bv7_1_k7 sFL_far_0_k7 hm7 hl
      refine lv_iload_n hx hb dX0_middleRoom_7 rfl (lv_at hl 0 rfl) ?_
      refine lv_aload_n hx hb dX0_middleRoom_8 rfl (lv_at hl 3 rfl) ?_
      refine va_get (D := D) (ci := 0) (v := .ref PL) (C := RX0) (T := TX0) (N := 5) hx hb hts iw_X0_middleRoom_X0 hown hK hP 0 rfl rfl 0 (by decide) (hts (.fieldLink RX0 21 "SoldHouse$Floor" "plan" "LSoldHouse$Plan;") (List.mem_of_getElem? (i := 1) rfl)) (fun _ h9 => h9) rfl dX0_middleRoom_9 ?_
      refine va_get (D := D) (ci := 5) (v := .int PL_rooms) (C := RX5) (T := TX5) (N := 16) hx hb hts iw_X0_middleRoom_X5 hown hK hP 1 rfl rfl 0 (by decide) (hts (.fieldLink RX0 43 "SoldHouse$Plan" "rooms" "I") (List.mem_of_getElem? (i := 2) rfl)) (fun _ h9 => h9) rfl dX0_middleRoom_12 ?_
      refine lv_icmp_ge (tgt := 42) hx hb dX0_middleRoom_15 (by decide) (fun c15 => ?_) (fun c15 => ?_)
      · refine lv_iload_n hx hb dX0_middleRoom_42 rfl (lv_at hl 2 rfl) ?_
        exact up _ _ _ (W.iret (v := v7_1) hx hb hr (fun t ht hW => ⟨v7_1, rfl, bv7_1_k7, ht⟩) (fun q hq => by cases hq) dX0_middleRoom_43)
      · have bx15f_v7_3 : zB v7_3 0 7 := zB_ltu (zf c15) bv7_3_k7 b_PL_rooms (by decide)
        have by15f_PL_rooms : zB PL_rooms 1 8 := zB_ltv (zf c15) bx15f_v7_3 b_PL_rooms (by decide)
        refine lv_aload_n hx hb dX0_middleRoom_18 rfl (lv_at hl 3 rfl) ?_
        refine lv_iload_n hx hb dX0_middleRoom_19 rfl (lv_at hl 0 rfl) ?_
        have hPc := hP.sub (ws' := [(FL, .inr (0, oX0 PL aFL FL_parting)), (PL, .inr (5, oX5 FO aPL PL_rooms PL_doors PL_things PL_draw PL_drawTold)), ((aFL 2), .inl (cI, 64, .inl FL_far))]) [0, 1, 2] rfl
        refine vp_callSi (va_runV (As := [.int v7_3]) (rest := []) ⟨hx, hb, hml, hown, hts⟩ (c_X0_farthestFrom l D cI cB cL cZ cG FL v7_3 PL aFL FL_parting PL_rooms aPL PL_doors PL_things FO PL_draw PL_drawTold FL_far bx15f_v7_3 (zB_w by15f_PL_rooms (by decide) (by decide)) b_PL_doors b_PL_things sFL_far_0_k7) (cwV 1 hts gX0_middleRoom_X0_farthestFrom rfl rfl rfl (by decide +kernel) ⟨Nat.le_of_ble_eq_true rfl, Nat.le_of_ble_eq_true rfl⟩) ⟨xr_blind, va_recv hK hP (ci := 0) (q0 := 0) rfl rfl, fun U hU hW => xr_mk hU hW hPc hK⟩ rfl rfl hl.1 rfl (lv_room (Nat.le_of_ble_eq_true rfl)) dX0_middleRoom_20 ⟨Nat.le_of_ble_eq_true rfl, Nat.le_of_ble_eq_true rfl⟩).run (fun r20 hr20 => ?_)
        clear hPc
        refine lv_istore (lv' := [(4, .int r20), (3, .int v7_3), (2, .int v7_2), (1, .int v7_1), (0, .ref FL)]) hx hb dX0_middleRoom_23 hl (by decide) rfl (fun ls hl => ?_)
        refine lv_iload hx hb dX0_middleRoom_25 (lv_at hl 0 rfl) ?_
        refine lv_iload_n hx hb dX0_middleRoom_27 rfl (lv_at hl 2 rfl) ?_
        have j36 : ∀ (ls : Array Slot) (v36_1 : Int32) (v36_2 : Int32), zB v36_1 (-1) 7 → zB v36_2 0 7 → zA FL_far 0 64 (-1) 7 → lv_has ls 5 [(1, .int v36_1), (2, .int v36_2), (4, .int r20), (3, .int v7_3), (0, .ref FL)] → W p l e ({ frames := 2, cells := 0, slots := 0, locals := 45 } : Room) s m ([.ref FL] : List Value).toArray below meth c s.heap [] 0 0 Q (F0 m 36 ls []) := by
          intro ls v36_1 v36_2 bv36_1_k36 bv36_2_k36 sFL_far_0_k36 hl
          obtain ⟨y36, by36, ry36, ey36⟩ := zi_inc (x := v7_3) (k := 1) (a := 1) (b := 8) bx15f_v7_3 (by decide) (by decide) (by decide) (by decide) (by decide)
          refine lv_iinc (v := y36) (lv' := [(3, .int y36), (1, .int v36_1), (2, .int v36_2), (4, .int r20), (0, .ref FL)]) hx hb dX0_middleRoom_36 hl (k := 3) rfl ey36 (by decide) rfl (fun ls hl => ?_)
          refine lv_goto (tgt := 7) hx hb dX0_middleRoom_39 (by decide) ?_
          exact ih7 ls y36 v36_2 v36_1 (zB_w by36 (by decide) (by decide)) (zB_w bv36_2_k36 (by decide) (by decide)) bv36_1_k36 sFL_far_0_k36 (zM_us (k := 1) hm7 ry36 (by decide)) (lv_sub hl [0, 2, 1, 4] rfl)
        refine lv_icmp_ge (tgt := 36) hx hb dX0_middleRoom_28 (by decide) (fun c28 => ?_) (fun c28 => ?_)
        · have bx28t_v7_2 : zB v7_2 0 7 := zB_leu (ze c28) bv7_2_k7 hr20 (by decide)
          exact j36 ls v7_1 v7_2 bv7_1_k7 bx28t_v7_2 sFL_far_0_k7 (lv_sub hl [3, 2, 0, 1, 4] rfl)
        · have by28f_v7_2 : zB v7_2 1 8 := zB_ltv (zf c28) hr20 bv7_2_k7 (by decide)
          refine lv_iload hx hb dX0_middleRoom_31 (lv_at hl 0 rfl) ?_
          refine lv_istore_n (lv' := [(2, .int r20), (4, .int r20), (3, .int v7_3), (1, .int v7_1), (0, .ref FL)]) hx hb dX0_middleRoom_33 rfl hl (by decide) rfl (fun ls hl => ?_)
          refine lv_iload_n hx hb dX0_middleRoom_34 rfl (lv_at hl 2 rfl) ?_
          refine lv_istore_n (lv' := [(1, .int v7_3), (2, .int r20), (4, .int r20), (3, .int v7_3), (0, .ref FL)]) hx hb dX0_middleRoom_35 rfl hl (by decide) rfl (fun ls hl => ?_)
          exact j36 ls v7_3 r20 (zB_w bx15f_v7_3 (by decide) (by decide)) hr20 sFL_far_0_k7 (lv_sub hl [0, 1, 2, 3, 4] rfl)
  refine lv_istore_n (lv' := [(3, .int 0), (2, .int 8), (1, .int (-1)), (0, .ref FL)]) hx hb dX0_middleRoom_6 rfl hl (by decide) rfl (fun ls hl => ?_)
  exact j7 9 ls 0 8 (-1) (zB_w (show zB 0 0 0 from ⟨by decide, by decide⟩) (by decide) (by decide)) (zB_w (show zB 8 8 8 from ⟨by decide, by decide⟩) (by decide) (by decide)) (zB_w (show zB (-1) (-1) (-1) from ⟨by decide, by decide⟩) (by decide) (by decide)) s_FL_far_0 (zM_ui (show zB 0 0 0 from ⟨by decide, by decide⟩) (by decide)) (lv_sub hl [0, 1, 2, 3] rfl)
set_option maxHeartbeats 4000000 in
set_option maxRecDepth 100000 in
theorem c_X0_minutesTo (l : Launch) (D : va_G) (cI : ClassId) (cB : ClassId) (cL : ClassId) (cZ : ClassId) (cG : ClassId) (FL : Nat) (x0 : Int32) (x1 : Int32) (x2 : Int32) (PL : Nat) (aFL : Nat → Nat) (FL_parting : Int32) (FL_far : Nat → Int32) (b_x0 : zB x0 0 7) (b_x1 : zB x1 0 7) (b_x2 : zB x2 0 7) (s_FL_far_0 : zA FL_far 0 64 (-1) 7) : Met l yX0_minutesTo wsX0_minutesTo ({ frames := 1, cells := 0, slots := 0, locals := 22 }) (xr D [(cI, .int), (cB, .byte), (cL, .long), (cZ, .boolean), (cG, .array .int)] [(FL, .inr (0, oX0 PL aFL FL_parting)), ((aFL 2), .inl (cI, 64, .inl FL_far))] [.ref FL, .int x0, .int x1, .int x2]) (vp_Si (fun r => zB r (-1) 7)) 0 0 (fun _ => False) := by
  refine Met.ofW (cc := cX0_minutesTo) (maxL := 4) (ret := (some .int)) (by decide) rfl ?_
  intro p e s m args below meth c s₁ B hml hv
  obtain ⟨rfl, hP, hK⟩ := hv
  have hx := B.exec
  have hb := B.bytes
  have hr := B.returns
  have hts := atoms_spec (ws := wsX0_minutesTo) B.pre
  have hown : s.vm.findClass RX0 = some m.cls := findClass_of_methodNamed B.named
  have hlocks := B.notSynchronized
  clear B
  have hl := lv_entry ([.ref FL, .int x0, .int x1, .int x2]) (n := 4) (Nat.le_of_ble_eq_true rfl)
  rw [lg_entry_eq]
  generalize (lg_sl ([.ref FL, .int x0, .int x1, .int x2]) ++ List.replicate (4 - (lg_sl ([.ref FL, .int x0, .int x1, .int x2])).length) Slot.unset).toArray = ls at hl ⊢
  replace hl : lv_has ls 4 [(0, .ref FL), (1, .int x0), (2, .int x1), (3, .int x2)] := hl
  refine lv_aload_n hx hb dX0_minutesTo_0 rfl (lv_at hl 0 rfl) ?_
  refine lv_iload_n hx hb dX0_minutesTo_1 rfl (lv_at hl 2 rfl) ?_
  refine lv_iload_n hx hb dX0_minutesTo_2 rfl (lv_at hl 1 rfl) ?_
  have hPc := hP.sub (ws' := [(FL, .inr (0, oX0 PL aFL FL_parting)), ((aFL 2), .inl (cI, 64, .inl FL_far))]) [0, 1] rfl
  refine vp_callSi (va_runV (As := [.int x1, .int x0]) (rest := []) ⟨hx, hb, hml, hown, hts⟩ (c_X0_farOf l D cI cB cL cZ cG FL x1 x0 PL aFL FL_parting FL_far b_x1 b_x0 s_FL_far_0) (cwV 2 hts gX0_minutesTo_X0_farOf rfl rfl rfl (by decide +kernel) ⟨Nat.le_of_ble_eq_true rfl, Nat.le_of_ble_eq_true rfl⟩) ⟨xr_blind, va_recv hK hP (ci := 0) (q0 := 0) rfl rfl, fun U hU hW => xr_mk hU hW hPc hK⟩ rfl rfl hl.1 rfl (lv_room (Nat.le_of_ble_eq_true rfl)) dX0_minutesTo_3 ⟨Nat.le_of_ble_eq_true rfl, Nat.le_of_ble_eq_true rfl⟩).run (fun r3 hr3 => ?_)
  clear hPc
  refine lv_aload_n hx hb dX0_minutesTo_6 rfl (lv_at hl 0 rfl) ?_
  refine lv_iload_n hx hb dX0_minutesTo_7 rfl (lv_at hl 3 rfl) ?_
  refine lv_iload_n hx hb dX0_minutesTo_8 rfl (lv_at hl 1 rfl) ?_
  have hPc := hP.sub (ws' := [(FL, .inr (0, oX0 PL aFL FL_parting)), ((aFL 2), .inl (cI, 64, .inl FL_far))]) [0, 1] rfl
  refine vp_callSi (va_runV (As := [.int x2, .int x0]) (rest := [.int r3]) ⟨hx, hb, hml, hown, hts⟩ (c_X0_farOf l D cI cB cL cZ cG FL x2 x0 PL aFL FL_parting FL_far b_x2 b_x0 s_FL_far_0) (cwV 2 hts gX0_minutesTo_X0_farOf rfl rfl rfl (by decide +kernel) ⟨Nat.le_of_ble_eq_true rfl, Nat.le_of_ble_eq_true rfl⟩) ⟨xr_blind, va_recv hK hP (ci := 0) (q0 := 0) rfl rfl, fun U hU hW => xr_mk hU hW hPc hK⟩ rfl rfl hl.1 rfl (lv_room (Nat.le_of_ble_eq_true rfl)) dX0_minutesTo_9 ⟨Nat.le_of_ble_eq_true rfl, Nat.le_of_ble_eq_true rfl⟩).run (fun r9 hr9 => ?_)
  clear hPc
  refine va_mmax hx hb (by rw [hml]; exact hl.1.symm) hown (hts (.methodLink RX0 71 Lib.Math.max.name) (List.mem_of_getElem? (i := 1) rfl)) (hts (.static Lib.Math.max.name) (List.mem_of_getElem? (i := 2) rfl)) (hts (.initialized "java/lang/Math") (List.mem_of_getElem? (i := 3) rfl)) (hts (.code Lib.Math.max.name Lib.Math.max.code 2 (some .int)) (List.mem_of_getElem? (i := 4) rfl)) (Nat.le_of_ble_eq_true rfl) (Nat.le_of_ble_eq_true rfl) (Nat.le_of_ble_eq_true rfl) (Nat.le_of_ble_eq_true rfl) dX0_minutesTo_12 ?_
  refine zi_top (a := (-1)) (b := 7) (zB_max hr3 hr9 (by decide) (by decide)) (fun y12 by12 => ?_)
  exact W.iret (v := y12) hx hb hr (fun t ht hW => ⟨y12, rfl, by12, ht⟩) (fun q hq => by cases hq) dX0_minutesTo_15
set_option maxHeartbeats 4000000 in
set_option maxRecDepth 100000 in
theorem c_X0_meetingRoom (l : Launch) (D : va_G) (cI : ClassId) (cB : ClassId) (cL : ClassId) (cZ : ClassId) (cG : ClassId) (FL : Nat) (x0 : Int32) (x1 : Int32) (PL : Nat) (aFL : Nat → Nat) (FL_parting : Int32) (FL_far : Nat → Int32) (PL_rooms : Int32) (aPL : Nat → Nat) (PL_doors : Int32) (PL_things : Int32) (FO : Nat) (PL_draw : Int32) (PL_drawTold : Int32) (b_x0 : zB x0 0 7) (b_x1 : zB x1 0 7) (b_PL_rooms : zB PL_rooms 0 8) (b_PL_doors : zB PL_doors 0 12) (b_PL_things : zB PL_things 0 6) (s_FL_far_0 : zA FL_far 0 64 (-1) 7) : Met l yX0_meetingRoom wsX0_meetingRoom ({ frames := 2, cells := 0, slots := 0, locals := 45 }) (xr D [(cI, .int), (cB, .byte), (cL, .long), (cZ, .boolean), (cG, .array .int)] [(FL, .inr (0, oX0 PL aFL FL_parting)), ((aFL 2), .inl (cI, 64, .inl FL_far)), (PL, .inr (5, oX5 FO aPL PL_rooms PL_doors PL_things PL_draw PL_drawTold))] [.ref FL, .int x0, .int x1]) (vp_Si (fun r => zB r (-1) 7)) 0 0 (fun _ => False) := by
  refine Met.ofW (cc := cX0_meetingRoom) (maxL := 6) (ret := (some .int)) (by decide) rfl ?_
  intro p e s m args below meth c s₁ B hml hv
  obtain ⟨rfl, hP, hK⟩ := hv
  have hx := B.exec
  have hb := B.bytes
  have hr := B.returns
  have hts := atoms_spec (ws := wsX0_meetingRoom) B.pre
  have hown : s.vm.findClass RX0 = some m.cls := findClass_of_methodNamed B.named
  have hlocks := B.notSynchronized
  clear B
  have hl := lv_entry ([.ref FL, .int x0, .int x1]) (n := 6) (Nat.le_of_ble_eq_true rfl)
  rw [lg_entry_eq]
  generalize (lg_sl ([.ref FL, .int x0, .int x1]) ++ List.replicate (6 - (lg_sl ([.ref FL, .int x0, .int x1])).length) Slot.unset).toArray = ls at hl ⊢
  replace hl : lv_has ls 6 [(0, .ref FL), (1, .int x0), (2, .int x1)] := hl
  refine zz_abs (R := ({ frames := 2, cells := 0, slots := 0, locals := 45 } : Room)) (fun Q up => ?_)
  refine lv_aload_n hx hb dX0_meetingRoom_0 rfl (lv_at hl 0 rfl) ?_
  refine lv_iload_n hx hb dX0_meetingRoom_1 rfl (lv_at hl 1 rfl) ?_
  refine lv_iload_n hx hb dX0_meetingRoom_2 rfl (lv_at hl 2 rfl) ?_
  have hPc := hP.sub (ws' := [(FL, .inr (0, oX0 PL aFL FL_parting)), ((aFL 2), .inl (cI, 64, .inl FL_far))]) [0, 1] rfl
  refine vp_callSi (va_runV (As := [.int x0, .int x1]) (rest := []) ⟨hx, hb, hml, hown, hts⟩ (c_X0_farOf l D cI cB cL cZ cG FL x0 x1 PL aFL FL_parting FL_far b_x0 b_x1 s_FL_far_0) (cwV 2 hts gX0_meetingRoom_X0_farOf rfl rfl rfl (by decide +kernel) ⟨Nat.le_of_ble_eq_true rfl, Nat.le_of_ble_eq_true rfl⟩) ⟨xr_blind, va_recv hK hP (ci := 0) (q0 := 0) rfl rfl, fun U hU hW => xr_mk hU hW hPc hK⟩ rfl rfl hl.1 rfl (lv_room (Nat.le_of_ble_eq_true rfl)) dX0_meetingRoom_3 ⟨Nat.le_of_ble_eq_true rfl, Nat.le_of_ble_eq_true rfl⟩).run (fun r3 hr3 => ?_)
  clear hPc
  refine lv_iconst (v := (-1)) hx hb dX0_meetingRoom_6 (by decide) ?_
  refine lv_icmp_ne (tgt := 12) hx hb dX0_meetingRoom_7 (by decide) (fun c7 => ?_) (fun c7 => ?_)
  · have bn7t_r3 : zB r3 0 7 := zB_neL c7 hr3 (show zB (-1) (-1) (-1) from ⟨by decide, by decide⟩) (by decide)
    refine lv_iconst (v := (-1)) hx hb dX0_meetingRoom_12 (by decide) ?_
    refine lv_istore_n (lv' := [(3, .int (-1)), (0, .ref FL), (1, .int x0), (2, .int x1)]) hx hb dX0_meetingRoom_13 rfl hl (by decide) rfl (fun ls hl => ?_)
    refine lv_bipush (v := 8) hx hb dX0_meetingRoom_14 (by decide) ?_
    refine lv_istore (lv' := [(4, .int 8), (3, .int (-1)), (0, .ref FL), (1, .int x0), (2, .int x1)]) hx hb dX0_meetingRoom_16 hl (by decide) rfl (fun ls hl => ?_)
    refine lv_iconst (v := 0) hx hb dX0_meetingRoom_18 (by decide) ?_
    have j21 : ∀ (n21 : Nat) (ls : Array Slot) (v21_5 : Int32) (v21_4 : Int32) (v21_3 : Int32), zB v21_5 0 8 → zB v21_4 (-1) 8 → zB v21_3 (-1) 7 → zA FL_far 0 64 (-1) 7 → (8 + 1 - v21_5.toInt) ≤ (n21 : Int) → lv_has ls 6 [(5, .int v21_5), (4, .int v21_4), (3, .int v21_3), (0, .ref FL), (1, .int x0), (2, .int x1)] → W p l e ({ frames := 2, cells := 0, slots := 0, locals := 45 } : Room) s m ([.ref FL, .int x0, .int x1] : List Value).toArray below meth c s.heap [] 0 0 Q (F0 m 21 ls []) := by
      intro n21
      induction n21 with
      | zero => intro ls v21_5 v21_4 v21_3 bv21_5_k21 bv21_4_k21 bv21_3_k21 sFL_far_0_k21 hm21 hl; exact zM_u0 bv21_5_k21 hm21
      | succ n21 ih21 =>
        intro ls v21_5 v21_4 v21_3 bv21_5_k21 bv21_4_k21 bv21_3_k21 sFL_far_0_k21 hm21 hl
        refine lv_iload hx hb dX0_meetingRoom_21 (lv_at hl 0 rfl) ?_
        refine lv_aload_n hx hb dX0_meetingRoom_23 rfl (lv_at hl 3 rfl) ?_
        refine va_get (D := D) (ci := 0) (v := .ref PL) (C := RX0) (T := TX0) (N := 5) hx hb hts iw_X0_meetingRoom_X0 hown hK hP 0 rfl rfl 0 (by decide) (hts (.fieldLink RX0 21 "SoldHouse$Floor" "plan" "LSoldHouse$Plan;") (List.mem_of_getElem? (i := 1) rfl)) (fun _ h9 => h9) rfl dX0_meetingRoom_24 ?_
        refine va_get (D := D) (ci := 5) (v := .int PL_rooms) (C := RX5) (T := TX5) (N := 16) hx hb hts iw_X0_meetingRoom_X5 hown hK hP 2 rfl rfl 0 (by decide) (hts (.fieldLink RX0 43 "SoldHouse$Plan" "rooms" "I") (List.mem_of_getElem? (i := 2) rfl)) (fun _ h9 => h9) rfl dX0_meetingRoom_27 ?_
        refine lv_icmp_ge (tgt := 76) hx hb dX0_meetingRoom_30 (by decide) (fun c30 => ?_) (fun c30 => ?_)
        · refine lv_iload_n hx hb dX0_meetingRoom_76 rfl (lv_at hl 2 rfl) ?_
          exact up _ _ _ (W.iret (v := v21_3) hx hb hr (fun t ht hW => ⟨v21_3, rfl, bv21_3_k21, ht⟩) (fun q hq => by cases hq) dX0_meetingRoom_77)
        · have bx30f_v21_5 : zB v21_5 0 7 := zB_ltu (zf c30) bv21_5_k21 b_PL_rooms (by decide)
          have by30f_PL_rooms : zB PL_rooms 1 8 := zB_ltv (zf c30) bx30f_v21_5 b_PL_rooms (by decide)
          refine lv_aload_n hx hb dX0_meetingRoom_33 rfl (lv_at hl 3 rfl) ?_
          refine lv_iload_n hx hb dX0_meetingRoom_34 rfl (lv_at hl 4 rfl) ?_
          refine lv_iload hx hb dX0_meetingRoom_35 (lv_at hl 0 rfl) ?_
          have hPc := hP.sub (ws' := [(FL, .inr (0, oX0 PL aFL FL_parting)), ((aFL 2), .inl (cI, 64, .inl FL_far))]) [0, 1] rfl
          refine vp_callSi (va_runV (As := [.int x0, .int v21_5]) (rest := []) ⟨hx, hb, hml, hown, hts⟩ (c_X0_farOf l D cI cB cL cZ cG FL x0 v21_5 PL aFL FL_parting FL_far b_x0 bx30f_v21_5 sFL_far_0_k21) (cwV 2 hts gX0_meetingRoom_X0_farOf rfl rfl rfl (by decide +kernel) ⟨Nat.le_of_ble_eq_true rfl, Nat.le_of_ble_eq_true rfl⟩) ⟨xr_blind, va_recv hK hP (ci := 0) (q0 := 0) rfl rfl, fun U hU hW => xr_mk hU hW hPc hK⟩ rfl rfl hl.1 rfl (lv_room (Nat.le_of_ble_eq_true rfl)) dX0_meetingRoom_37 ⟨Nat.le_of_ble_eq_true rfl, Nat.le_of_ble_eq_true rfl⟩).run (fun r37 hr37 => ?_)
          clear hPc
          refine lv_iconst (v := (-1)) hx hb dX0_meetingRoom_40 (by decide) ?_
          have j70 : ∀ (ls : Array Slot) (v70_4 : Int32) (v70_3 : Int32), zB v70_4 (-1) 8 → zB v70_3 (-1) 7 → zA FL_far 0 64 (-1) 7 → lv_has ls 6 [(5, .int v21_5), (4, .int v70_4), (3, .int v70_3), (0, .ref FL), (1, .int x0), (2, .int x1)] → W p l e ({ frames := 2, cells := 0, slots := 0, locals := 45 } : Room) s m ([.ref FL, .int x0, .int x1] : List Value).toArray below meth c s.heap [] 0 0 Q (F0 m 70 ls []) := by
            intro ls v70_4 v70_3 bv70_4_k70 bv70_3_k70 sFL_far_0_k70 hl
            obtain ⟨y70, by70, ry70, ey70⟩ := zi_inc (x := v21_5) (k := 1) (a := 1) (b := 8) bx30f_v21_5 (by decide) (by decide) (by decide) (by decide) (by decide)
            refine lv_iinc (v := y70) (lv' := [(5, .int y70), (4, .int v70_4), (3, .int v70_3), (0, .ref FL), (1, .int x0), (2, .int x1)]) hx hb dX0_meetingRoom_70 hl (k := 0) rfl ey70 (by decide) rfl (fun ls hl => ?_)
            refine lv_goto (tgt := 21) hx hb dX0_meetingRoom_73 (by decide) ?_
            exact ih21 ls y70 v70_4 v70_3 (zB_w by70 (by decide) (by decide)) bv70_4_k70 bv70_3_k70 sFL_far_0_k70 (zM_us (k := 1) hm21 ry70 (by decide)) (lv_sub hl [0, 1, 2, 3, 4, 5] rfl)
          refine lv_icmp_eq (tgt := 70) hx hb dX0_meetingRoom_41 (by decide) (fun c41 => ?_) (fun c41 => ?_)
          · have be41t_r37 : zB r37 (-1) (-1) := zB_eq c41 hr37 (show zB (-1) (-1) (-1) from ⟨by decide, by decide⟩) (by decide) (by decide)
            exact j70 ls v21_4 v21_3 bv21_4_k21 bv21_3_k21 sFL_far_0_k21 (lv_sub hl [0, 1, 2, 3, 4, 5] rfl)
          · have bn41f_r37 : zB r37 0 7 := zB_neL c41 hr37 (show zB (-1) (-1) (-1) from ⟨by decide, by decide⟩) (by decide)
            refine lv_aload_n hx hb dX0_meetingRoom_44 rfl (lv_at hl 3 rfl) ?_
            refine lv_iload hx hb dX0_meetingRoom_45 (lv_at hl 0 rfl) ?_
            refine lv_iload_n hx hb dX0_meetingRoom_47 rfl (lv_at hl 4 rfl) ?_
            refine lv_iload_n hx hb dX0_meetingRoom_48 rfl (lv_at hl 5 rfl) ?_
            have hPc := hP.sub (ws' := [(FL, .inr (0, oX0 PL aFL FL_parting)), ((aFL 2), .inl (cI, 64, .inl FL_far))]) [0, 1] rfl
            refine vp_callSi (va_runV (As := [.int v21_5, .int x0, .int x1]) (rest := []) ⟨hx, hb, hml, hown, hts⟩ (c_X0_minutesTo l D cI cB cL cZ cG FL v21_5 x0 x1 PL aFL FL_parting FL_far bx30f_v21_5 b_x0 b_x1 sFL_far_0_k21) (cwV 3 hts gX0_meetingRoom_X0_minutesTo rfl rfl rfl (by decide +kernel) ⟨Nat.le_of_ble_eq_true rfl, Nat.le_of_ble_eq_true rfl⟩) ⟨xr_blind, va_recv hK hP (ci := 0) (q0 := 0) rfl rfl, fun U hU hW => xr_mk hU hW hPc hK⟩ rfl rfl hl.1 rfl (lv_room (Nat.le_of_ble_eq_true rfl)) dX0_meetingRoom_49 ⟨Nat.le_of_ble_eq_true rfl, Nat.le_of_ble_eq_true rfl⟩).run (fun r49 hr49 => ?_)
            clear hPc
            refine lv_iload hx hb dX0_meetingRoom_52 (lv_at hl 1 rfl) ?_
            refine lv_icmp_ge (tgt := 70) hx hb dX0_meetingRoom_54 (by decide) (fun c54 => ?_) (fun c54 => ?_)
            · have bx54t_v21_4 : zB v21_4 (-1) 7 := zB_leu (ze c54) bv21_4_k21 hr49 (by decide)
              exact j70 ls v21_4 v21_3 (zB_w bx54t_v21_4 (by decide) (by decide)) bv21_3_k21 sFL_far_0_k21 (lv_sub hl [0, 1, 2, 3, 4, 5] rfl)
            · have by54f_v21_4 : zB v21_4 0 8 := zB_ltv (zf c54) hr49 bv21_4_k21 (by decide)
              refine lv_aload_n hx hb dX0_meetingRoom_57 rfl (lv_at hl 3 rfl) ?_
              refine lv_iload hx hb dX0_meetingRoom_58 (lv_at hl 0 rfl) ?_
              refine lv_iload_n hx hb dX0_meetingRoom_60 rfl (lv_at hl 4 rfl) ?_
              refine lv_iload_n hx hb dX0_meetingRoom_61 rfl (lv_at hl 5 rfl) ?_
              have hPc := hP.sub (ws' := [(FL, .inr (0, oX0 PL aFL FL_parting)), ((aFL 2), .inl (cI, 64, .inl FL_far))]) [0, 1] rfl
              refine vp_callSi (va_runV (As := [.int v21_5, .int x0, .int x1]) (rest := []) ⟨hx, hb, hml, hown, hts⟩ (c_X0_minutesTo l D cI cB cL cZ cG FL v21_5 x0 x1 PL aFL FL_parting FL_far bx30f_v21_5 b_x0 b_x1 sFL_far_0_k21) (cwV 3 hts gX0_meetingRoom_X0_minutesTo rfl rfl rfl (by decide +kernel) ⟨Nat.le_of_ble_eq_true rfl, Nat.le_of_ble_eq_true rfl⟩) ⟨xr_blind, va_recv hK hP (ci := 0) (q0 := 0) rfl rfl, fun U hU hW => xr_mk hU hW hPc hK⟩ rfl rfl hl.1 rfl (lv_room (Nat.le_of_ble_eq_true rfl)) dX0_meetingRoom_62 ⟨Nat.le_of_ble_eq_true rfl, Nat.le_of_ble_eq_true rfl⟩).run (fun r62 hr62 => ?_)
              clear hPc
              refine lv_istore (lv' := [(4, .int r62), (5, .int v21_5), (3, .int v21_3), (0, .ref FL), (1, .int x0), (2, .int x1)]) hx hb dX0_meetingRoom_65 hl (by decide) rfl (fun ls hl => ?_)
              refine lv_iload hx hb dX0_meetingRoom_67 (lv_at hl 1 rfl) ?_
              refine lv_istore_n (lv' := [(3, .int v21_5), (4, .int r62), (5, .int v21_5), (0, .ref FL), (1, .int x0), (2, .int x1)]) hx hb dX0_meetingRoom_69 rfl hl (by decide) rfl (fun ls hl => ?_)
              exact j70 ls r62 v21_5 (zB_w hr62 (by decide) (by decide)) (zB_w bx30f_v21_5 (by decide) (by decide)) sFL_far_0_k21 (lv_sub hl [2, 1, 0, 3, 4, 5] rfl)
    refine lv_istore (lv' := [(5, .int 0), (4, .int 8), (3, .int (-1)), (0, .ref FL), (1, .int x0), (2, .int x1)]) hx hb dX0_meetingRoom_19 hl (by decide) rfl (fun ls hl => ?_)
    exact j21 9 ls 0 8 (-1) (zB_w (show zB 0 0 0 from ⟨by decide, by decide⟩) (by decide) (by decide)) (zB_w (show zB 8 8 8 from ⟨by decide, by decide⟩) (by decide) (by decide)) (zB_w (show zB (-1) (-1) (-1) from ⟨by decide, by decide⟩) (by decide) (by decide)) s_FL_far_0 (zM_ui (show zB 0 0 0 from ⟨by decide, by decide⟩) (by decide)) (lv_sub hl [0, 1, 2, 3, 4, 5] rfl)
  · have be7f_r3 : zB r3 (-1) (-1) := zB_eq c7 hr3 (show zB (-1) (-1) (-1) from ⟨by decide, by decide⟩) (by decide) (by decide)
    refine lv_iconst (v := (-1)) hx hb dX0_meetingRoom_10 (by decide) ?_
    exact up _ _ _ (W.iret (v := (-1)) hx hb hr (fun t ht hW => ⟨(-1), rfl, (zB_w (show zB (-1) (-1) (-1) from ⟨by decide, by decide⟩) (by decide) (by decide)), ht⟩) (fun q hq => by cases hq) dX0_meetingRoom_11)
set_option maxHeartbeats 4000000 in
set_option maxRecDepth 100000 in
theorem c_X0_barringRooms (l : Launch) (D : va_G) (cI : ClassId) (cB : ClassId) (cL : ClassId) (cZ : ClassId) (cG : ClassId) (FL : Nat) (x0 : Int32) (x1 : Int32) (PL : Nat) (aFL : Nat → Nat) (FL_parting : Int32) (PL_rooms : Int32) (aPL : Nat → Nat) (PL_doors : Int32) (PL_things : Int32) (FO : Nat) (PL_draw : Int32) (PL_drawTold : Int32) (FL_next : Nat → Int32) (b_x0 : zB x0 0 7) (b_x1 : zB x1 0 7) (b_PL_rooms : zB PL_rooms 0 8) (b_PL_doors : zB PL_doors 0 12) (b_PL_things : zB PL_things 0 6) : Met l yX0_barringRooms wsX0_barringRooms ({ frames := 2, cells := 0, slots := 0, locals := 47 }) (xr D [(cI, .int), (cB, .byte), (cL, .long), (cZ, .boolean), (cG, .array .int)] [(FL, .inr (0, oX0 PL aFL FL_parting)), (PL, .inr (5, oX5 FO aPL PL_rooms PL_doors PL_things PL_draw PL_drawTold)), ((aFL 1), .inl (cI, 8, .inl FL_next))] [.ref FL, .int x0, .int x1]) (vp_Si (fun r => zB r (-1) 255)) 0 0 (fun _ => False) := by
  refine Met.ofW (cc := cX0_barringRooms) (maxL := 7) (ret := (some .int)) (by decide) rfl ?_
  intro p e s m args below meth c s₁ B hml hv
  obtain ⟨rfl, hP, hK⟩ := hv
  have hx := B.exec
  have hb := B.bytes
  have hr := B.returns
  have hts := atoms_spec (ws := wsX0_barringRooms) B.pre
  have hown : s.vm.findClass RX0 = some m.cls := findClass_of_methodNamed B.named
  have hlocks := B.notSynchronized
  clear B
  have hl := lv_entry ([.ref FL, .int x0, .int x1]) (n := 7) (Nat.le_of_ble_eq_true rfl)
  rw [lg_entry_eq]
  generalize (lg_sl ([.ref FL, .int x0, .int x1]) ++ List.replicate (7 - (lg_sl ([.ref FL, .int x0, .int x1])).length) Slot.unset).toArray = ls at hl ⊢
  replace hl : lv_has ls 7 [(0, .ref FL), (1, .int x0), (2, .int x1)] := hl
  refine zz_abs (R := ({ frames := 2, cells := 0, slots := 0, locals := 47 } : Room)) (fun Q up => ?_)
  refine lv_aload_n hx hb dX0_barringRooms_0 rfl (lv_at hl 0 rfl) ?_
  have hPc := hP.sub (ws' := [(FL, .inr (0, oX0 PL aFL FL_parting)), (PL, .inr (5, oX5 FO aPL PL_rooms PL_doors PL_things PL_draw PL_drawTold))]) [0, 1] rfl
  refine vp_callSi (va_runV (As := []) (rest := []) ⟨hx, hb, hml, hown, hts⟩ (c_X0_allRooms l D cI cB cL cZ cG FL PL aFL FL_parting PL_rooms aPL PL_doors PL_things FO PL_draw PL_drawTold b_PL_rooms b_PL_doors b_PL_things) (cwV 0 hts gX0_barringRooms_X0_allRooms rfl rfl rfl (by decide +kernel) ⟨Nat.le_of_ble_eq_true rfl, Nat.le_of_ble_eq_true rfl⟩) ⟨xr_blind, va_recv hK hP (ci := 0) (q0 := 0) rfl rfl, fun U hU hW => xr_mk hU hW hPc hK⟩ rfl rfl hl.1 rfl (lv_room (Nat.le_of_ble_eq_true rfl)) dX0_barringRooms_1 ⟨Nat.le_of_ble_eq_true rfl, Nat.le_of_ble_eq_true rfl⟩).run (fun r1 hr1 => ?_)
  clear hPc
  refine lv_iconst (v := 1) hx hb dX0_barringRooms_4 (by decide) ?_
  refine lv_iload_n hx hb dX0_barringRooms_5 rfl (lv_at hl 1 rfl) ?_
  refine lv_ishl hx hb dX0_barringRooms_6 ?_
  refine zi_top (a := 1) (b := 128) (zB_shl1 b_x0 (by decide) (by decide) (by decide) (by decide)) (fun y6 by6 => ?_)
  refine lv_iconst (v := 1) hx hb dX0_barringRooms_7 (by decide) ?_
  refine lv_iload_n hx hb dX0_barringRooms_8 rfl (lv_at hl 2 rfl) ?_
  refine lv_ishl hx hb dX0_barringRooms_9 ?_
  refine zi_top (a := 1) (b := 128) (zB_shl1 b_x1 (by decide) (by decide) (by decide) (by decide)) (fun y9 by9 => ?_)
  refine lv_ior hx hb dX0_barringRooms_10 ?_
  refine zi_top (a := 1) (b := 255) (zB_or 8 by6 by9 (by decide) (by decide) (by decide) (by decide) (by decide) (by decide) (by decide)) (fun y10 by10 => ?_)
  refine lv_iconst (v := (-1)) hx hb dX0_barringRooms_11 (by decide) ?_
  refine lv_ixor hx hb dX0_barringRooms_12 ?_
  refine zi_top (a := (-256)) (b := (-2)) (zB_not by10 (by decide) (by decide)) (fun y12 by12 => ?_)
  refine lv_iand hx hb dX0_barringRooms_13 ?_
  refine zi_top (a := 0) (b := 255) (zB_andl hr1 (by decide)) (fun y13 by13 => ?_)
  refine lv_istore_n (lv' := [(3, .int y13), (0, .ref FL), (1, .int x0), (2, .int x1)]) hx hb dX0_barringRooms_14 rfl hl (by decide) rfl (fun ls hl => ?_)
  refine lv_iconst (v := 0) hx hb dX0_barringRooms_15 (by decide) ?_
  have j18 : ∀ (n18 : Nat) (ls : Array Slot) (v18_4 : Int32), zB v18_4 0 4 → (4 + 1 - v18_4.toInt) ≤ (n18 : Int) → lv_has ls 7 [(4, .int v18_4), (3, .int y13), (0, .ref FL), (1, .int x0), (2, .int x1)] → W p l e ({ frames := 2, cells := 0, slots := 0, locals := 47 } : Room) s m ([.ref FL, .int x0, .int x1] : List Value).toArray below meth c s.heap [] 0 0 Q (F0 m 18 ls []) := by
    intro n18
    induction n18 with
    | zero => intro ls v18_4 bv18_4_k18 hm18 hl; exact zM_u0 bv18_4_k18 hm18
    | succ n18 ih18 =>
      intro ls v18_4 bv18_4_k18 hm18 hl
      refine lv_iload_n hx hb dX0_barringRooms_18 rfl (lv_at hl 3 rfl) ?_
      refine lv_iload_n hx hb dX0_barringRooms_19 rfl (lv_at hl 4 rfl) ?_
      refine lv_icmp_eq (tgt := 100) hx hb dX0_barringRooms_20 (by decide) (fun c20 => ?_) (fun c20 => ?_)
      · refine lv_iconst (v := (-1)) hx hb dX0_barringRooms_100 (by decide) ?_
        exact up _ _ _ (W.iret (v := (-1)) hx hb hr (fun t ht hW => ⟨(-1), rfl, (zB_w (show zB (-1) (-1) (-1) from ⟨by decide, by decide⟩) (by decide) (by decide)), ht⟩) (fun q hq => by cases hq) dX0_barringRooms_101)
      · refine lv_iload hx hb dX0_barringRooms_23 (lv_at hl 0 rfl) ?_
        refine lv_iconst (v := 3) hx hb dX0_barringRooms_25 (by decide) ?_
        refine lv_icmp_gt (tgt := 100) hx hb dX0_barringRooms_26 (by decide) (fun c26 => ?_) (fun c26 => ?_)
        · have by26t_v18_4 : zB v18_4 4 4 := zB_ltv (zl c26) (show zB 3 3 3 from ⟨by decide, by decide⟩) bv18_4_k18 (by decide)
          refine lv_iconst (v := (-1)) hx hb dX0_barringRooms_100 (by decide) ?_
          exact up _ _ _ (W.iret (v := (-1)) hx hb hr (fun t ht hW => ⟨(-1), rfl, (zB_w (show zB (-1) (-1) (-1) from ⟨by decide, by decide⟩) (by decide) (by decide)), ht⟩) (fun q hq => by cases hq) dX0_barringRooms_101)
        · have bx26f_v18_4 : zB v18_4 0 3 := zB_leu (zg c26) bv18_4_k18 (show zB 3 3 3 from ⟨by decide, by decide⟩) (by decide)
          refine lv_iconst (v := 0) hx hb dX0_barringRooms_29 (by decide) ?_
          have j32 : ∀ (n32 : Nat) (ls : Array Slot) (v32_5 : Int32), zB v32_5 0 256 → (256 + 1 - v32_5.toInt) ≤ (n32 : Int) → lv_has ls 7 [(5, .int v32_5), (4, .int v18_4), (3, .int y13), (0, .ref FL), (1, .int x0), (2, .int x1)] → W p l e ({ frames := 2, cells := 0, slots := 0, locals := 47 } : Room) s m ([.ref FL, .int x0, .int x1] : List Value).toArray below meth c s.heap [] 0 0 Q (F0 m 32 ls []) := by
            intro n32
            induction n32 with
            | zero => intro ls v32_5 bv32_5_k32 hm32 hl; exact zM_u0 bv32_5_k32 hm32
            | succ n32 ih32 =>
              intro ls v32_5 bv32_5_k32 hm32 hl
              refine lv_iload hx hb dX0_barringRooms_32 (lv_at hl 0 rfl) ?_
              refine lv_iload_n hx hb dX0_barringRooms_34 rfl (lv_at hl 2 rfl) ?_
              refine lv_icmp_gt (tgt := 94) hx hb dX0_barringRooms_35 (by decide) (fun c35 => ?_) (fun c35 => ?_)
              · have by35t_v32_5 : zB v32_5 1 256 := zB_ltv (zl c35) by13 bv32_5_k32 (by decide)
                obtain ⟨y94, by94, ry94, ey94⟩ := zi_inc (x := v18_4) (k := 1) (a := 1) (b := 4) bx26f_v18_4 (by decide) (by decide) (by decide) (by decide) (by decide)
                refine lv_iinc (v := y94) (lv' := [(4, .int y94), (5, .int v32_5), (3, .int y13), (0, .ref FL), (1, .int x0), (2, .int x1)]) hx hb dX0_barringRooms_94 hl (k := 1) rfl ey94 (by decide) rfl (fun ls hl => ?_)
                refine lv_goto (tgt := 18) hx hb dX0_barringRooms_97 (by decide) ?_
                exact ih18 ls y94 (zB_w by94 (by decide) (by decide)) (zM_us (k := 1) hm18 ry94 (by decide)) (lv_sub hl [0, 2, 3, 4, 5] rfl)
              · have bx35f_v32_5 : zB v32_5 0 255 := zB_leu (zg c35) bv32_5_k32 by13 (by decide)
                refine lv_iload hx hb dX0_barringRooms_38 (lv_at hl 0 rfl) ?_
                refine lv_iload_n hx hb dX0_barringRooms_40 rfl (lv_at hl 2 rfl) ?_
                refine lv_iconst (v := (-1)) hx hb dX0_barringRooms_41 (by decide) ?_
                refine lv_ixor hx hb dX0_barringRooms_42 ?_
                refine zi_top (a := (-256)) (b := (-1)) (zB_not by13 (by decide) (by decide)) (fun y42 by42 => ?_)
                refine lv_iand hx hb dX0_barringRooms_43 ?_
                refine zi_top (a := 0) (b := 255) (zB_andl bx35f_v32_5 (by decide)) (fun y43 by43 => ?_)
                have j62 : ∀ (ls : Array Slot) (u62_0 : Int32), zB u62_0 0 1 → lv_has ls 7 [(5, .int v32_5), (4, .int v18_4), (3, .int y13), (0, .ref FL), (1, .int x0), (2, .int x1)] → W p l e ({ frames := 2, cells := 0, slots := 0, locals := 47 } : Room) s m ([.ref FL, .int x0, .int x1] : List Value).toArray below meth c s.heap [] 0 0 Q (F0 m 62 ls [.int u62_0]) := by
                  intro ls u62_0 bu62_0_k62 hl
                  refine lv_istore (lv' := [(6, .int u62_0), (5, .int v32_5), (4, .int v18_4), (3, .int y13), (0, .ref FL), (1, .int x0), (2, .int x1)]) hx hb dX0_barringRooms_62 hl (by decide) rfl (fun ls hl => ?_)
                  refine lv_iload hx hb dX0_barringRooms_64 (lv_at hl 0 rfl) ?_
                  have j88 : ∀ (ls : Array Slot), lv_has ls 7 [(6, .int u62_0), (5, .int v32_5), (4, .int v18_4), (3, .int y13), (0, .ref FL), (1, .int x0), (2, .int x1)] → W p l e ({ frames := 2, cells := 0, slots := 0, locals := 47 } : Room) s m ([.ref FL, .int x0, .int x1] : List Value).toArray below meth c s.heap [] 0 0 Q (F0 m 88 ls []) := by
                    intro ls hl
                    obtain ⟨y88, by88, ry88, ey88⟩ := zi_inc (x := v32_5) (k := 1) (a := 1) (b := 256) bx35f_v32_5 (by decide) (by decide) (by decide) (by decide) (by decide)
                    refine lv_iinc (v := y88) (lv' := [(5, .int y88), (6, .int u62_0), (4, .int v18_4), (3, .int y13), (0, .ref FL), (1, .int x0), (2, .int x1)]) hx hb dX0_barringRooms_88 hl (k := 1) rfl ey88 (by decide) rfl (fun ls hl => ?_)
                    refine lv_goto (tgt := 32) hx hb dX0_barringRooms_91 (by decide) ?_
                    exact ih32 ls y88 (zB_w by88 (by decide) (by decide)) (zM_us (k := 1) hm32 ry88 (by decide)) (lv_sub hl [0, 2, 3, 4, 5, 6] rfl)
                  refine lv_if_eq (tgt := 88) hx hb dX0_barringRooms_66 (by decide) (fun c66 => ?_) (fun c66 => ?_)
                  · have be66t_u62_0 : zB u62_0 0 0 := zB_eq c66 bu62_0_k62 (show zB 0 0 0 from ⟨by decide, by decide⟩) (by decide) (by decide)
                    exact j88 ls (lv_sub hl [0, 1, 2, 3, 4, 5, 6] rfl)
                  · have bn66f_u62_0 : zB u62_0 1 1 := zB_neL c66 bu62_0_k62 (show zB 0 0 0 from ⟨by decide, by decide⟩) (by decide)
                    refine lv_aload_n hx hb dX0_barringRooms_69 rfl (lv_at hl 4 rfl) ?_
                    refine lv_iload_n hx hb dX0_barringRooms_70 rfl (lv_at hl 5 rfl) ?_
                    refine lv_iload hx hb dX0_barringRooms_71 (lv_at hl 1 rfl) ?_
                    refine lv_iconst (v := (-1)) hx hb dX0_barringRooms_73 (by decide) ?_
                    refine lv_ixor hx hb dX0_barringRooms_74 ?_
                    refine zi_top (a := (-256)) (b := (-1)) (zB_not bx35f_v32_5 (by decide) (by decide)) (fun y74 by74 => ?_)
                    have hPc := hP.sub (ws' := [(FL, .inr (0, oX0 PL aFL FL_parting)), (PL, .inr (5, oX5 FO aPL PL_rooms PL_doors PL_things PL_draw PL_drawTold)), ((aFL 1), .inl (cI, 8, .inl FL_next))]) [0, 1, 2] rfl
                    refine vp_callSi (va_runV (As := [.int x0, .int y74]) (rest := []) ⟨hx, hb, hml, hown, hts⟩ (c_X0_reach l D cI cB cL cZ cG FL x0 y74 PL aFL FL_parting PL_rooms aPL PL_doors PL_things FO PL_draw PL_drawTold FL_next b_PL_rooms b_PL_doors b_PL_things) (cwV 2 hts gX0_barringRooms_X0_reach rfl rfl rfl (by decide +kernel) ⟨Nat.le_of_ble_eq_true rfl, Nat.le_of_ble_eq_true rfl⟩) ⟨xr_blind, va_recv hK hP (ci := 0) (q0 := 0) rfl rfl, fun U hU hW => xr_mk hU hW hPc hK⟩ rfl rfl hl.1 rfl (lv_room (Nat.le_of_ble_eq_true rfl)) dX0_barringRooms_75 ⟨Nat.le_of_ble_eq_true rfl, Nat.le_of_ble_eq_true rfl⟩).run (fun r75 hr75 => ?_)
                    clear hPc
                    clear hr75
                    refine lv_iload_n hx hb dX0_barringRooms_78 rfl (lv_at hl 6 rfl) ?_
                    refine lv_ishr hx hb dX0_barringRooms_79 ?_
                    refine lv_topi (fun y79 _ => ?_)
                    refine lv_iconst (v := 1) hx hb dX0_barringRooms_80 (by decide) ?_
                    refine lv_iand hx hb dX0_barringRooms_81 ?_
                    refine zi_top (a := 0) (b := 1) (zB_andr (show zB 1 1 1 from ⟨by decide, by decide⟩) (by decide)) (fun y81 by81 => ?_)
                    refine lv_if_ne (tgt := 88) hx hb dX0_barringRooms_82 (by decide) (fun c82 => ?_) (fun c82 => ?_)
                    · have bn82t_y81 : zB y81 1 1 := zB_neL c82 by81 (show zB 0 0 0 from ⟨by decide, by decide⟩) (by decide)
                      exact j88 ls (lv_sub hl [0, 1, 2, 3, 4, 5, 6] rfl)
                    · have be82f_y81 : zB y81 0 0 := zB_eq c82 by81 (show zB 0 0 0 from ⟨by decide, by decide⟩) (by decide) (by decide)
                      refine lv_iload hx hb dX0_barringRooms_85 (lv_at hl 1 rfl) ?_
                      exact up _ _ _ (W.iret (v := v32_5) hx hb hr (fun t ht hW => ⟨v32_5, rfl, (zB_w bx35f_v32_5 (by decide) (by decide)), ht⟩) (fun q hq => by cases hq) dX0_barringRooms_87)
                have j61 : ∀ (ls : Array Slot), lv_has ls 7 [(5, .int v32_5), (4, .int v18_4), (3, .int y13), (0, .ref FL), (1, .int x0), (2, .int x1)] → W p l e ({ frames := 2, cells := 0, slots := 0, locals := 47 } : Room) s m ([.ref FL, .int x0, .int x1] : List Value).toArray below meth c s.heap [] 0 0 Q (F0 m 61 ls []) := by
                  intro ls hl
                  refine lv_iconst (v := 0) hx hb dX0_barringRooms_61 (by decide) ?_
                  exact j62 ls 0 (zB_w (show zB 0 0 0 from ⟨by decide, by decide⟩) (by decide) (by decide)) (lv_sub hl [0, 1, 2, 3, 4, 5] rfl)
                refine lv_if_ne (tgt := 61) hx hb dX0_barringRooms_44 (by decide) (fun c44 => ?_) (fun c44 => ?_)
                · have bn44t_y43 : zB y43 1 255 := zB_neL c44 by43 (show zB 0 0 0 from ⟨by decide, by decide⟩) (by decide)
                  exact j61 ls (lv_sub hl [0, 1, 2, 3, 4, 5] rfl)
                · have be44f_y43 : zB y43 0 0 := zB_eq c44 by43 (show zB 0 0 0 from ⟨by decide, by decide⟩) (by decide) (by decide)
                  refine lv_iload hx hb dX0_barringRooms_47 (lv_at hl 0 rfl) ?_
                  have hPc := hP.sub (ws' := []) [] rfl
                  refine vp_callSi (va_runS (As := [.int v32_5]) (rest := []) ⟨hx, hb, hml, hown, hts⟩ (c_J6_bitCount_0f7a4 l D cI cB cL cZ cG v32_5) (va_cwS 1 hts gX0_barringRooms_J6_bitCount_0f7a4 rfl rfl rfl (by decide +kernel) ⟨Nat.le_of_ble_eq_true rfl, Nat.le_of_ble_eq_true rfl⟩) ⟨xr_blind, fun U hU hW => xr_mk hU hW hPc hK⟩ rfl rfl hl.1 rfl (lv_room (Nat.le_of_ble_eq_true rfl)) dX0_barringRooms_49 ⟨Nat.le_of_ble_eq_true rfl, Nat.le_of_ble_eq_true rfl⟩).run (fun r49 hr49 => ?_)
                  clear hPc
                  refine lv_iload hx hb dX0_barringRooms_52 (lv_at hl 1 rfl) ?_
                  refine lv_icmp_ne (tgt := 61) hx hb dX0_barringRooms_54 (by decide) (fun c54 => ?_) (fun c54 => ?_)
                  · exact j61 ls (lv_sub hl [0, 1, 2, 3, 4, 5] rfl)
                  · have be54f_r49 : zB r49 0 3 := zB_eq c54 hr49 bx26f_v18_4 (by decide) (by decide)
                    refine lv_iconst (v := 1) hx hb dX0_barringRooms_57 (by decide) ?_
                    refine lv_goto (tgt := 62) hx hb dX0_barringRooms_58 (by decide) ?_
                    exact j62 ls 1 (zB_w (show zB 1 1 1 from ⟨by decide, by decide⟩) (by decide) (by decide)) (lv_sub hl [0, 1, 2, 3, 4, 5] rfl)
          refine lv_istore (lv' := [(5, .int 0), (4, .int v18_4), (3, .int y13), (0, .ref FL), (1, .int x0), (2, .int x1)]) hx hb dX0_barringRooms_30 hl (by decide) rfl (fun ls hl => ?_)
          exact j32 257 ls 0 (zB_w (show zB 0 0 0 from ⟨by decide, by decide⟩) (by decide) (by decide)) (zM_ui (show zB 0 0 0 from ⟨by decide, by decide⟩) (by decide)) (lv_sub hl [0, 1, 2, 3, 4, 5] rfl)
  refine lv_istore (lv' := [(4, .int 0), (3, .int y13), (0, .ref FL), (1, .int x0), (2, .int x1)]) hx hb dX0_barringRooms_16 hl (by decide) rfl (fun ls hl => ?_)
  exact j18 5 ls 0 (zB_w (show zB 0 0 0 from ⟨by decide, by decide⟩) (by decide) (by decide)) (zM_ui (show zB 0 0 0 from ⟨by decide, by decide⟩) (by decide)) (lv_sub hl [0, 1, 2, 3, 4] rfl)
set_option maxHeartbeats 4000000 in
set_option maxRecDepth 100000 in
theorem c_X0_measureFrom (l : Launch) (D : va_G) (cI : ClassId) (cB : ClassId) (cL : ClassId) (cZ : ClassId) (cG : ClassId) (FL : Nat) (x0 : Int32) (PL : Nat) (aFL : Nat → Nat) (FL_parting : Int32) (PL_rooms : Int32) (aPL : Nat → Nat) (PL_doors : Int32) (PL_things : Int32) (FO : Nat) (PL_draw : Int32) (PL_drawTold : Int32) (FL_far : Nat → Int32) (FL_next : Nat → Int32) (sz : Nat) (b_x0 : zB x0 0 7) (b_PL_rooms : zB PL_rooms 0 8) (b_PL_doors : zB PL_doors 0 12) (b_PL_things : zB PL_things 0 6) (s_FL_far_0 : zA FL_far 0 64 (-1) 7) : Met l yX0_measureFrom wsX0_measureFrom ({ frames := 1, cells := 0, slots := 0, locals := 23 }) (xp D [(cI, .int), (cB, .byte), (cL, .long), (cZ, .boolean), (cG, .array .int)] [(FL, .inr (0, oX0 PL aFL FL_parting)), (PL, .inr (5, oX5 FO aPL PL_rooms PL_doors PL_things PL_draw PL_drawTold)), ((aFL 2), .inl (cI, 64, .inl FL_far)), ((aFL 1), .inl (cI, 8, .inl FL_next))] sz [] [.ref FL, .int x0]) (va_Qv (fun _ : Unit => True) (fun (_ : Unit) (t : State) => ∃ (nFLfar : Nat → Int32), zA nFLfar 0 64 (-1) 7 ∧ xB D (va_A [(FL, .inr (0, oX0 PL aFL FL_parting)), (PL, .inr (5, oX5 FO aPL PL_rooms PL_doors PL_things PL_draw PL_drawTold)), ((aFL 2), .inl (cI, 64, .inl FL_far)), ((aFL 1), .inl (cI, 8, .inl FL_next))] sz) [(FL, .inr (0, oX0 PL aFL FL_parting)), (PL, .inr (5, oX5 FO aPL PL_rooms PL_doors PL_things PL_draw PL_drawTold)), ((aFL 2), .inl (cI, 64, .inl nFLfar)), ((aFL 1), .inl (cI, 8, .inl FL_next))] t) (va_A [(FL, .inr (0, oX0 PL aFL FL_parting)), (PL, .inr (5, oX5 FO aPL PL_rooms PL_doors PL_things PL_draw PL_drawTold)), ((aFL 2), .inl (cI, 64, .inl FL_far)), ((aFL 1), .inl (cI, 8, .inl FL_next))] sz)) 0 0 (va_A [(FL, .inr (0, oX0 PL aFL FL_parting)), (PL, .inr (5, oX5 FO aPL PL_rooms PL_doors PL_things PL_draw PL_drawTold)), ((aFL 2), .inl (cI, 64, .inl FL_far)), ((aFL 1), .inl (cI, 8, .inl FL_next))] sz) := by
  refine Met.ofW (cc := cX0_measureFrom) (maxL := 6) (ret := none) (by decide) rfl ?_
  intro p e s m args below meth c s₁ B hml hv
  obtain ⟨rfl, hsz, hP, hK, hD0, hNw⟩ := hv
  have hx := B.exec
  have hb := B.bytes
  have hr := B.returns
  have hts := atoms_spec (ws := wsX0_measureFrom) B.pre
  have hown : s.vm.findClass RX0 = some m.cls := findClass_of_methodNamed B.named
  have hlocks := B.notSynchronized
  clear B
  subst hsz
  have hD := hD0.self (sz := s.heap.size)
  clear hD0 hNw
  generalize hAe : va_A [(FL, .inr (0, oX0 PL aFL FL_parting)), (PL, .inr (5, oX5 FO aPL PL_rooms PL_doors PL_things PL_draw PL_drawTold)), ((aFL 2), .inl (cI, 64, .inl FL_far)), ((aFL 1), .inl (cI, 8, .inl FL_next))] s.heap.size = A at hD ⊢
  have hA : ∀ q : Nat, s.heap.size ≤ q → A q := fun q h => by rw [← hAe]; exact Or.inr h
  have hS : va_S A s.heap s.heap [] := va_S.rf
  clear hAe
  obtain ⟨H, hH⟩ : ∃ H : Heap, H = s.heap := ⟨_, rfl⟩
  obtain ⟨locs, hlocs⟩ : ∃ L : List Loc, L = [] := ⟨_, rfl⟩
  replace hP : va_P D classes [(FL, .inr (0, oX0 PL aFL FL_parting)), (PL, .inr (5, oX5 FO aPL PL_rooms PL_doors PL_things PL_draw PL_drawTold)), ((aFL 2), .inl (cI, 64, .inl FL_far)), ((aFL 1), .inl (cI, 8, .inl FL_next))] H := by rw [hH]; exact hP
  replace hS : va_S A s.heap H locs := by rw [hH, hlocs]; exact hS
  rw [← hH, ← hlocs]
  clear hlocs hH
  have hl := lv_entry ([.ref FL, .int x0]) (n := 6) (Nat.le_of_ble_eq_true rfl)
  rw [lg_entry_eq]
  generalize (lg_sl ([.ref FL, .int x0]) ++ List.replicate (6 - (lg_sl ([.ref FL, .int x0])).length) Slot.unset).toArray = ls at hl ⊢
  replace hl : lv_has ls 6 [(0, .ref FL), (1, .int x0)] := hl
  refine zz_abs (R := ({ frames := 1, cells := 0, slots := 0, locals := 23 } : Room)) (fun Q up => ?_)
  refine lv_iconst (v := 0) hx hb dX0_measureFrom_0 (by decide) ?_
  refine lv_istore_n (lv' := [(2, .int 0), (0, .ref FL), (1, .int x0)]) hx hb dX0_measureFrom_1 rfl hl (by decide) rfl (fun ls hl => ?_)
  refine lv_iconst (v := 1) hx hb dX0_measureFrom_2 (by decide) ?_
  refine lv_iload_n hx hb dX0_measureFrom_3 rfl (lv_at hl 2 rfl) ?_
  refine lv_ishl hx hb dX0_measureFrom_4 ?_
  refine zi_top (a := 1) (b := 128) (zB_shl1 b_x0 (by decide) (by decide) (by decide) (by decide)) (fun y4 by4 => ?_)
  refine lv_istore_n (lv' := [(3, .int y4), (2, .int 0), (0, .ref FL), (1, .int x0)]) hx hb dX0_measureFrom_5 rfl hl (by decide) rfl (fun ls hl => ?_)
  refine lv_iconst (v := 0) hx hb dX0_measureFrom_6 (by decide) ?_
  have j9 : ∀ (n9 : Nat) (H : Heap) (locs : List Loc) (ls : Array Slot) (v9_4 : Int32) (v9_3 : Int32) (v9_2 : Int32) (g9_aFL2 : Nat → Int32), zB v9_4 0 8 → zA g9_aFL2 0 64 (-1) 7 → (8 + 1 - v9_4.toInt) ≤ (n9 : Int) → va_P D classes [(FL, .inr (0, oX0 PL aFL FL_parting)), (PL, .inr (5, oX5 FO aPL PL_rooms PL_doors PL_things PL_draw PL_drawTold)), ((aFL 2), .inl (cI, 64, .inl g9_aFL2)), ((aFL 1), .inl (cI, 8, .inl FL_next))] H → va_D A [(FL, .inr (0, oX0 PL aFL FL_parting)), (PL, .inr (5, oX5 FO aPL PL_rooms PL_doors PL_things PL_draw PL_drawTold)), ((aFL 2), .inl (cI, 64, .inl g9_aFL2)), ((aFL 1), .inl (cI, 8, .inl FL_next))] → va_S A s.heap H locs → lv_has ls 6 [(4, .int v9_4), (3, .int v9_3), (2, .int v9_2), (0, .ref FL), (1, .int x0)] → W p l e ({ frames := 1, cells := 0, slots := 0, locals := 23 } : Room) s m ([.ref FL, .int x0] : List Value).toArray below meth c H locs 0 0 Q (F0 m 9 ls []) := by
    intro n9
    induction n9 with
    | zero => intro H locs ls v9_4 v9_3 v9_2 g9_aFL2 bv9_4_k9 sg9_aFL2_0_k9 hm9 hP hD hS hl; exact zM_u0 bv9_4_k9 hm9
    | succ n9 ih9 =>
      intro H locs ls v9_4 v9_3 v9_2 g9_aFL2 bv9_4_k9 sg9_aFL2_0_k9 hm9 hP hD hS hl
      refine lv_iload hx hb dX0_measureFrom_9 (lv_at hl 0 rfl) ?_
      refine lv_aload_n hx hb dX0_measureFrom_11 rfl (lv_at hl 3 rfl) ?_
      refine va_get (D := D) (ci := 0) (v := .ref PL) (C := RX0) (T := TX0) (N := 5) hx hb hts iw_X0_measureFrom_X0 hown hK hP 0 rfl rfl 0 (by decide) (hts (.fieldLink RX0 21 "SoldHouse$Floor" "plan" "LSoldHouse$Plan;") (List.mem_of_getElem? (i := 1) rfl)) (fun _ h9 => h9) rfl dX0_measureFrom_12 ?_
      refine va_get (D := D) (ci := 5) (v := .int PL_rooms) (C := RX5) (T := TX5) (N := 16) hx hb hts iw_X0_measureFrom_X5 hown hK hP 1 rfl rfl 0 (by decide) (hts (.fieldLink RX0 43 "SoldHouse$Plan" "rooms" "I") (List.mem_of_getElem? (i := 2) rfl)) (fun _ h9 => h9) rfl dX0_measureFrom_15 ?_
      refine lv_icmp_ge (tgt := 86) hx hb dX0_measureFrom_18 (by decide) (fun c18 => ?_) (fun c18 => ?_)
      · exact up _ _ _ (W.vret hx hb hr (fun t ht hW => ⟨⟨(), rfl, trivial, ⟨g9_aFL2, sg9_aFL2_0_k9, by rw [ht]; exact hP, hD⟩⟩, hS.F ht⟩) hS.2.2 dX0_measureFrom_86)
      · have bx18f_v9_4 : zB v9_4 0 7 := zB_ltu (zf c18) bv9_4_k9 b_PL_rooms (by decide)
        have by18f_PL_rooms : zB PL_rooms 1 8 := zB_ltv (zf c18) bx18f_v9_4 b_PL_rooms (by decide)
        refine lv_iconst (v := 0) hx hb dX0_measureFrom_21 (by decide) ?_
        have j24 : ∀ (n24 : Nat) (H : Heap) (locs : List Loc) (ls : Array Slot) (v24_5 : Int32) (g24_aFL2 : Nat → Int32), zB v24_5 0 8 → zA g24_aFL2 0 64 (-1) 7 → (8 + 1 - v24_5.toInt) ≤ (n24 : Int) → va_P D classes [(FL, .inr (0, oX0 PL aFL FL_parting)), (PL, .inr (5, oX5 FO aPL PL_rooms PL_doors PL_things PL_draw PL_drawTold)), ((aFL 2), .inl (cI, 64, .inl g24_aFL2)), ((aFL 1), .inl (cI, 8, .inl FL_next))] H → va_D A [(FL, .inr (0, oX0 PL aFL FL_parting)), (PL, .inr (5, oX5 FO aPL PL_rooms PL_doors PL_things PL_draw PL_drawTold)), ((aFL 2), .inl (cI, 64, .inl g24_aFL2)), ((aFL 1), .inl (cI, 8, .inl FL_next))] → va_S A s.heap H locs → lv_has ls 6 [(5, .int v24_5), (4, .int v9_4), (3, .int v9_3), (2, .int v9_2), (0, .ref FL), (1, .int x0)] → W p l e ({ frames := 1, cells := 0, slots := 0, locals := 23 } : Room) s m ([.ref FL, .int x0] : List Value).toArray below meth c H locs 0 0 Q (F0 m 24 ls []) := by
          intro n24
          induction n24 with
          | zero => intro H locs ls v24_5 g24_aFL2 bv24_5_k24 sg24_aFL2_0_k24 hm24 hP hD hS hl; exact zM_u0 bv24_5_k24 hm24
          | succ n24 ih24 =>
            intro H locs ls v24_5 g24_aFL2 bv24_5_k24 sg24_aFL2_0_k24 hm24 hP hD hS hl
            refine lv_iload hx hb dX0_measureFrom_24 (lv_at hl 0 rfl) ?_
            refine lv_aload_n hx hb dX0_measureFrom_26 rfl (lv_at hl 4 rfl) ?_
            refine va_get (D := D) (ci := 0) (v := .ref PL) (C := RX0) (T := TX0) (N := 5) hx hb hts iw_X0_measureFrom_X0 hown hK hP 0 rfl rfl 0 (by decide) (hts (.fieldLink RX0 21 "SoldHouse$Floor" "plan" "LSoldHouse$Plan;") (List.mem_of_getElem? (i := 1) rfl)) (fun _ h9 => h9) rfl dX0_measureFrom_27 ?_
            refine va_get (D := D) (ci := 5) (v := .int PL_rooms) (C := RX5) (T := TX5) (N := 16) hx hb hts iw_X0_measureFrom_X5 hown hK hP 1 rfl rfl 0 (by decide) (hts (.fieldLink RX0 43 "SoldHouse$Plan" "rooms" "I") (List.mem_of_getElem? (i := 2) rfl)) (fun _ h9 => h9) rfl dX0_measureFrom_30 ?_
            refine lv_icmp_ge (tgt := 66) hx hb dX0_measureFrom_33 (by decide) (fun c33 => ?_) (fun c33 => ?_)
            · have by33t_v24_5 : zB v24_5 1 8 := zB_lev (ze c33) by18f_PL_rooms bv24_5_k24 (by decide)
              refine lv_iload_n hx hb dX0_measureFrom_66 rfl (lv_at hl 3 rfl) ?_
              refine lv_iload_n hx hb dX0_measureFrom_67 rfl (lv_at hl 2 rfl) ?_
              refine lv_ior hx hb dX0_measureFrom_68 ?_
              refine lv_topi (fun y68 _ => ?_)
              refine lv_istore_n (lv' := [(2, .int y68), (5, .int v24_5), (4, .int v9_4), (3, .int v9_3), (0, .ref FL), (1, .int x0)]) hx hb dX0_measureFrom_69 rfl hl (by decide) rfl (fun ls hl => ?_)
              refine lv_aload_n hx hb dX0_measureFrom_70 rfl (lv_at hl 4 rfl) ?_
              refine lv_iload_n hx hb dX0_measureFrom_71 rfl (lv_at hl 3 rfl) ?_
              have hPc := hP.sub (ws' := [(FL, .inr (0, oX0 PL aFL FL_parting)), (PL, .inr (5, oX5 FO aPL PL_rooms PL_doors PL_things PL_draw PL_drawTold)), ((aFL 1), .inl (cI, 8, .inl FL_next))]) [0, 1, 3] rfl
              refine vp_callSi (va_runV (As := [.int v9_3]) (rest := []) ⟨hx, hb, hml, hown, hts⟩ (c_X0_behindDoors l D cI cB cL cZ cG FL v9_3 PL aFL FL_parting PL_rooms aPL PL_doors PL_things FO PL_draw PL_drawTold FL_next (zB_w by18f_PL_rooms (by decide) (by decide)) b_PL_doors b_PL_things) (cwV 1 hts gX0_measureFrom_X0_behindDoors rfl rfl rfl (by decide +kernel) ⟨Nat.le_of_ble_eq_true rfl, Nat.le_of_ble_eq_true rfl⟩) ⟨xr_blind, va_recv hK hP (ci := 0) (q0 := 0) rfl rfl, fun U hU hW => xr_mk hU hW hPc hK⟩ rfl rfl hl.1 rfl (lv_room (Nat.le_of_ble_eq_true rfl)) dX0_measureFrom_72 ⟨Nat.le_of_ble_eq_true rfl, Nat.le_of_ble_eq_true rfl⟩).run (fun r72 hr72 => ?_)
              clear hPc
              clear hr72
              refine lv_iload_n hx hb dX0_measureFrom_75 rfl (lv_at hl 0 rfl) ?_
              refine lv_iconst (v := (-1)) hx hb dX0_measureFrom_76 (by decide) ?_
              refine lv_ixor hx hb dX0_measureFrom_77 ?_
              refine lv_topi (fun y77 _ => ?_)
              refine lv_iand hx hb dX0_measureFrom_78 ?_
              refine lv_topi (fun y78 _ => ?_)
              refine lv_istore_n (lv' := [(3, .int y78), (2, .int y68), (5, .int v24_5), (4, .int v9_4), (0, .ref FL), (1, .int x0)]) hx hb dX0_measureFrom_79 rfl hl (by decide) rfl (fun ls hl => ?_)
              obtain ⟨y80, by80, ry80, ey80⟩ := zi_inc (x := v9_4) (k := 1) (a := 1) (b := 8) bx18f_v9_4 (by decide) (by decide) (by decide) (by decide) (by decide)
              refine lv_iinc (v := y80) (lv' := [(4, .int y80), (3, .int y78), (2, .int y68), (5, .int v24_5), (0, .ref FL), (1, .int x0)]) hx hb dX0_measureFrom_80 hl (k := 3) rfl ey80 (by decide) rfl (fun ls hl => ?_)
              refine lv_goto (tgt := 9) hx hb dX0_measureFrom_83 (by decide) ?_
              exact ih9 H locs ls y80 y78 y68 g24_aFL2 (zB_w by80 (by decide) (by decide)) sg24_aFL2_0_k24 (zM_us (k := 1) hm9 ry80 (by decide)) hP hD hS (lv_sub hl [0, 1, 2, 4, 5] rfl)
            · have bx33f_v24_5 : zB v24_5 0 7 := zB_ltu (zf c33) bv24_5_k24 by18f_PL_rooms (by decide)
              refine lv_iload_n hx hb dX0_measureFrom_36 rfl (lv_at hl 2 rfl) ?_
              refine lv_iload hx hb dX0_measureFrom_37 (lv_at hl 0 rfl) ?_
              refine lv_ishr hx hb dX0_measureFrom_39 ?_
              refine lv_topi (fun y39 _ => ?_)
              refine lv_iconst (v := 1) hx hb dX0_measureFrom_40 (by decide) ?_
              refine lv_iand hx hb dX0_measureFrom_41 ?_
              refine zi_top (a := 0) (b := 1) (zB_andr (show zB 1 1 1 from ⟨by decide, by decide⟩) (by decide)) (fun y41 by41 => ?_)
              refine lv_iconst (v := 1) hx hb dX0_measureFrom_42 (by decide) ?_
              have j60 : ∀ (H : Heap) (locs : List Loc) (ls : Array Slot) (g60_aFL2 : Nat → Int32), zA g60_aFL2 0 64 (-1) 7 → va_P D classes [(FL, .inr (0, oX0 PL aFL FL_parting)), (PL, .inr (5, oX5 FO aPL PL_rooms PL_doors PL_things PL_draw PL_drawTold)), ((aFL 2), .inl (cI, 64, .inl g60_aFL2)), ((aFL 1), .inl (cI, 8, .inl FL_next))] H → va_D A [(FL, .inr (0, oX0 PL aFL FL_parting)), (PL, .inr (5, oX5 FO aPL PL_rooms PL_doors PL_things PL_draw PL_drawTold)), ((aFL 2), .inl (cI, 64, .inl g60_aFL2)), ((aFL 1), .inl (cI, 8, .inl FL_next))] → va_S A s.heap H locs → lv_has ls 6 [(5, .int v24_5), (4, .int v9_4), (3, .int v9_3), (2, .int v9_2), (0, .ref FL), (1, .int x0)] → W p l e ({ frames := 1, cells := 0, slots := 0, locals := 23 } : Room) s m ([.ref FL, .int x0] : List Value).toArray below meth c H locs 0 0 Q (F0 m 60 ls []) := by
                intro H locs ls g60_aFL2 sg60_aFL2_0_k60 hP hD hS hl
                obtain ⟨y60, by60, ry60, ey60⟩ := zi_inc (x := v24_5) (k := 1) (a := 1) (b := 8) bx33f_v24_5 (by decide) (by decide) (by decide) (by decide) (by decide)
                refine lv_iinc (v := y60) (lv' := [(5, .int y60), (4, .int v9_4), (3, .int v9_3), (2, .int v9_2), (0, .ref FL), (1, .int x0)]) hx hb dX0_measureFrom_60 hl (k := 0) rfl ey60 (by decide) rfl (fun ls hl => ?_)
                refine lv_goto (tgt := 24) hx hb dX0_measureFrom_63 (by decide) ?_
                exact ih24 H locs ls y60 g60_aFL2 (zB_w by60 (by decide) (by decide)) sg60_aFL2_0_k60 (zM_us (k := 1) hm24 ry60 (by decide)) hP hD hS (lv_sub hl [0, 1, 2, 3, 4, 5] rfl)
              refine lv_icmp_ne (tgt := 60) hx hb dX0_measureFrom_43 (by decide) (fun c43 => ?_) (fun c43 => ?_)
              · have bn43t_y41 : zB y41 0 0 := zB_neH c43 by41 (show zB 1 1 1 from ⟨by decide, by decide⟩) (by decide)
                exact j60 H locs ls g24_aFL2 sg24_aFL2_0_k24 hP hD hS (lv_sub hl [0, 1, 2, 3, 4, 5] rfl)
              · have be43f_y41 : zB y41 1 1 := zB_eq c43 by41 (show zB 1 1 1 from ⟨by decide, by decide⟩) (by decide) (by decide)
                refine lv_aload_n hx hb dX0_measureFrom_46 rfl (lv_at hl 4 rfl) ?_
                refine va_get (D := D) (ci := 0) (v := .ref (aFL 2)) (C := RX0) (T := TX0) (N := 5) hx hb hts iw_X0_measureFrom_X0 hown hK hP 0 rfl rfl 2 (by decide) (hts (.fieldLink RX0 15 "SoldHouse$Floor" "far" "[I") (List.mem_of_getElem? (i := 3) rfl)) (fun _ h9 => h9) rfl dX0_measureFrom_47 ?_
                refine lv_iload_n hx hb dX0_measureFrom_50 rfl (lv_at hl 5 rfl) ?_
                refine lv_bipush (v := 8) hx hb dX0_measureFrom_51 (by decide) ?_
                refine lv_imul hx hb dX0_measureFrom_53 ?_
                refine zi_top (a := 0) (b := 56) (zB_mul b_x0 (show zB 8 8 8 from ⟨by decide, by decide⟩) (by decide) (by decide) (by decide) (by decide) (by decide)) (fun y53 by53 => ?_)
                refine lv_iload hx hb dX0_measureFrom_54 (lv_at hl 0 rfl) ?_
                refine lv_iadd hx hb dX0_measureFrom_56 ?_
                refine zi_top (a := 0) (b := 63) (zB_add by53 bx33f_v24_5 (by decide) (by decide) (by decide) (by decide)) (fun y56 by56 => ?_)
                refine lv_iload hx hb dX0_measureFrom_57 (lv_at hl 1 rfl) ?_
                refine zi_iast hx hb hK hP hD hS 2 0 rfl rfl (zB_in by56 (by decide) (by decide)) dX0_measureFrom_59 (fun H locs g59 eg59 hP hD hS => ?_)
                replace hP : va_P D classes [(FL, .inr (0, oX0 PL aFL FL_parting)), (PL, .inr (5, oX5 FO aPL PL_rooms PL_doors PL_things PL_draw PL_drawTold)), ((aFL 2), .inl (cI, 64, .inl g59)), ((aFL 1), .inl (cI, 8, .inl FL_next))] H := hP
                replace hD : va_D A [(FL, .inr (0, oX0 PL aFL FL_parting)), (PL, .inr (5, oX5 FO aPL PL_rooms PL_doors PL_things PL_draw PL_drawTold)), ((aFL 2), .inl (cI, 64, .inl g59)), ((aFL 1), .inl (cI, 8, .inl FL_next))] := hD
                have sg59_0 := zA_up eg59 sg24_aFL2_0_k24 bx18f_v9_4 (by decide) (by decide)
                clear eg59
                exact j60 H locs ls g59 sg59_0 hP hD hS (lv_sub hl [0, 1, 2, 3, 4, 5] rfl)
        refine lv_istore (lv' := [(5, .int 0), (4, .int v9_4), (3, .int v9_3), (2, .int v9_2), (0, .ref FL), (1, .int x0)]) hx hb dX0_measureFrom_22 hl (by decide) rfl (fun ls hl => ?_)
        exact j24 9 H locs ls 0 g9_aFL2 (zB_w (show zB 0 0 0 from ⟨by decide, by decide⟩) (by decide) (by decide)) sg9_aFL2_0_k9 (zM_ui (show zB 0 0 0 from ⟨by decide, by decide⟩) (by decide)) hP hD hS (lv_sub hl [0, 1, 2, 3, 4, 5] rfl)
  refine lv_istore (lv' := [(4, .int 0), (3, .int y4), (2, .int 0), (0, .ref FL), (1, .int x0)]) hx hb dX0_measureFrom_7 hl (by decide) rfl (fun ls hl => ?_)
  exact j9 9 H locs ls 0 y4 0 FL_far (zB_w (show zB 0 0 0 from ⟨by decide, by decide⟩) (by decide) (by decide)) s_FL_far_0 (zM_ui (show zB 0 0 0 from ⟨by decide, by decide⟩) (by decide)) hP hD hS (lv_sub hl [0, 1, 2, 3, 4] rfl)
set_option maxHeartbeats 4000000 in
set_option maxRecDepth 100000 in
theorem c_X0_nearSide (l : Launch) (D : va_G) (cI : ClassId) (cB : ClassId) (cL : ClassId) (cZ : ClassId) (cG : ClassId) (FL : Nat) (x0 : Int32) (PL : Nat) (aFL : Nat → Nat) (FL_parting : Int32) (PL_rooms : Int32) (aPL : Nat → Nat) (PL_doors : Int32) (PL_things : Int32) (FO : Nat) (PL_draw : Int32) (PL_drawTold : Int32) (PL_doorFrom : Nat → Int32) (PL_doorTo : Nat → Int32) (FL_next : Nat → Int32) (sz : Nat) (b_x0 : zB x0 0 11) (b_PL_rooms : zB PL_rooms 0 8) (b_PL_doors : zB PL_doors 0 12) (b_PL_things : zB PL_things 0 6) (s_PL_doorFrom_0 : zA PL_doorFrom 0 12 0 7) (s_PL_doorTo_0 : zA PL_doorTo 0 12 0 7) : Met l yX0_nearSide wsX0_nearSide ({ frames := 2, cells := 0, slots := 0, locals := 47 }) (xp D [(cI, .int), (cB, .byte), (cL, .long), (cZ, .boolean), (cG, .array .int)] [(FL, .inr (0, oX0 PL aFL FL_parting)), (PL, .inr (5, oX5 FO aPL PL_rooms PL_doors PL_things PL_draw PL_drawTold)), ((aPL 4), .inl (cI, 12, .inl PL_doorFrom)), ((aPL 5), .inl (cI, 12, .inl PL_doorTo)), ((aFL 1), .inl (cI, 8, .inl FL_next))] sz [] [.ref FL, .int x0]) (va_Qi (fun (r : Int32) (_ : Unit) => True) (fun (_ : Unit) (t : State) => ∃ (nFLnext : Nat → Int32), xB D (va_A [(FL, .inr (0, oX0 PL aFL FL_parting)), (PL, .inr (5, oX5 FO aPL PL_rooms PL_doors PL_things PL_draw PL_drawTold)), ((aPL 4), .inl (cI, 12, .inl PL_doorFrom)), ((aPL 5), .inl (cI, 12, .inl PL_doorTo)), ((aFL 1), .inl (cI, 8, .inl FL_next))] sz) [(FL, .inr (0, oX0 PL aFL FL_parting)), (PL, .inr (5, oX5 FO aPL PL_rooms PL_doors PL_things PL_draw PL_drawTold)), ((aPL 4), .inl (cI, 12, .inl PL_doorFrom)), ((aPL 5), .inl (cI, 12, .inl PL_doorTo)), ((aFL 1), .inl (cI, 8, .inl nFLnext))] t) (va_A [(FL, .inr (0, oX0 PL aFL FL_parting)), (PL, .inr (5, oX5 FO aPL PL_rooms PL_doors PL_things PL_draw PL_drawTold)), ((aPL 4), .inl (cI, 12, .inl PL_doorFrom)), ((aPL 5), .inl (cI, 12, .inl PL_doorTo)), ((aFL 1), .inl (cI, 8, .inl FL_next))] sz)) 0 0 (va_A [(FL, .inr (0, oX0 PL aFL FL_parting)), (PL, .inr (5, oX5 FO aPL PL_rooms PL_doors PL_things PL_draw PL_drawTold)), ((aPL 4), .inl (cI, 12, .inl PL_doorFrom)), ((aPL 5), .inl (cI, 12, .inl PL_doorTo)), ((aFL 1), .inl (cI, 8, .inl FL_next))] sz) := by
  refine Met.ofW (cc := cX0_nearSide) (maxL := 5) (ret := (some .int)) (by decide) rfl ?_
  intro p e s m args below meth c s₁ B hml hv
  obtain ⟨rfl, hsz, hP, hK, hD0, hNw⟩ := hv
  have hx := B.exec
  have hb := B.bytes
  have hr := B.returns
  have hts := atoms_spec (ws := wsX0_nearSide) B.pre
  have hown : s.vm.findClass RX0 = some m.cls := findClass_of_methodNamed B.named
  have hlocks := B.notSynchronized
  clear B
  subst hsz
  have hD := hD0.self (sz := s.heap.size)
  clear hD0 hNw
  generalize hAe : va_A [(FL, .inr (0, oX0 PL aFL FL_parting)), (PL, .inr (5, oX5 FO aPL PL_rooms PL_doors PL_things PL_draw PL_drawTold)), ((aPL 4), .inl (cI, 12, .inl PL_doorFrom)), ((aPL 5), .inl (cI, 12, .inl PL_doorTo)), ((aFL 1), .inl (cI, 8, .inl FL_next))] s.heap.size = A at hD ⊢
  have hA : ∀ q : Nat, s.heap.size ≤ q → A q := fun q h => by rw [← hAe]; exact Or.inr h
  have hS : va_S A s.heap s.heap [] := va_S.rf
  clear hAe
  obtain ⟨H, hH⟩ : ∃ H : Heap, H = s.heap := ⟨_, rfl⟩
  obtain ⟨locs, hlocs⟩ : ∃ L : List Loc, L = [] := ⟨_, rfl⟩
  replace hP : va_P D classes [(FL, .inr (0, oX0 PL aFL FL_parting)), (PL, .inr (5, oX5 FO aPL PL_rooms PL_doors PL_things PL_draw PL_drawTold)), ((aPL 4), .inl (cI, 12, .inl PL_doorFrom)), ((aPL 5), .inl (cI, 12, .inl PL_doorTo)), ((aFL 1), .inl (cI, 8, .inl FL_next))] H := by rw [hH]; exact hP
  replace hS : va_S A s.heap H locs := by rw [hH, hlocs]; exact hS
  rw [← hH, ← hlocs]
  clear hlocs hH
  have hl := lv_entry ([.ref FL, .int x0]) (n := 5) (Nat.le_of_ble_eq_true rfl)
  rw [lg_entry_eq]
  generalize (lg_sl ([.ref FL, .int x0]) ++ List.replicate (5 - (lg_sl ([.ref FL, .int x0])).length) Slot.unset).toArray = ls at hl ⊢
  replace hl : lv_has ls 5 [(0, .ref FL), (1, .int x0)] := hl
  refine lv_aload_n hx hb dX0_nearSide_0 rfl (lv_at hl 0 rfl) ?_
  refine va_get (D := D) (ci := 0) (v := .ref PL) (C := RX0) (T := TX0) (N := 5) hx hb hts iw_X0_nearSide_X0 hown hK hP 0 rfl rfl 0 (by decide) (hts (.fieldLink RX0 21 "SoldHouse$Floor" "plan" "LSoldHouse$Plan;") (List.mem_of_getElem? (i := 1) rfl)) (fun _ h9 => h9) rfl dX0_nearSide_1 ?_
  refine va_get (D := D) (ci := 5) (v := .ref (aPL 4)) (C := RX5) (T := TX5) (N := 16) hx hb hts iw_X0_nearSide_X5 hown hK hP 1 rfl rfl 4 (by decide) (hts (.fieldLink RX0 37 "SoldHouse$Plan" "doorFrom" "[I") (List.mem_of_getElem? (i := 2) rfl)) (fun _ h9 => h9) rfl dX0_nearSide_4 ?_
  refine lv_iload_n hx hb dX0_nearSide_7 rfl (lv_at hl 1 rfl) ?_
  refine va_iald hx hb hK hP 2 0 rfl rfl (zB_in b_x0 (by decide) (by decide)) dX0_nearSide_8 ?_
  refine zi_top (a := 0) (b := 7) (zA_at s_PL_doorFrom_0 b_x0 (by decide) (by decide)) (fun y8 by8 => ?_)
  refine lv_istore_n (lv' := [(2, .int y8), (0, .ref FL), (1, .int x0)]) hx hb dX0_nearSide_9 rfl hl (by decide) rfl (fun ls hl => ?_)
  refine lv_aload_n hx hb dX0_nearSide_10 rfl (lv_at hl 1 rfl) ?_
  refine va_get (D := D) (ci := 0) (v := .ref PL) (C := RX0) (T := TX0) (N := 5) hx hb hts iw_X0_nearSide_X0 hown hK hP 0 rfl rfl 0 (by decide) (hts (.fieldLink RX0 21 "SoldHouse$Floor" "plan" "LSoldHouse$Plan;") (List.mem_of_getElem? (i := 1) rfl)) (fun _ h9 => h9) rfl dX0_nearSide_11 ?_
  refine va_get (D := D) (ci := 5) (v := .ref (aPL 5)) (C := RX5) (T := TX5) (N := 16) hx hb hts iw_X0_nearSide_X5 hown hK hP 1 rfl rfl 5 (by decide) (hts (.fieldLink RX0 40 "SoldHouse$Plan" "doorTo" "[I") (List.mem_of_getElem? (i := 3) rfl)) (fun _ h9 => h9) rfl dX0_nearSide_14 ?_
  refine lv_iload_n hx hb dX0_nearSide_17 rfl (lv_at hl 2 rfl) ?_
  refine va_iald hx hb hK hP 3 0 rfl rfl (zB_in b_x0 (by decide) (by decide)) dX0_nearSide_18 ?_
  refine zi_top (a := 0) (b := 7) (zA_at s_PL_doorTo_0 b_x0 (by decide) (by decide)) (fun y18 by18 => ?_)
  refine lv_istore_n (lv' := [(3, .int y18), (2, .int y8), (0, .ref FL), (1, .int x0)]) hx hb dX0_nearSide_19 rfl hl (by decide) rfl (fun ls hl => ?_)
  refine lv_aload_n hx hb dX0_nearSide_20 rfl (lv_at hl 2 rfl) ?_
  refine va_get (D := D) (ci := 0) (v := .ref (aFL 1)) (C := RX0) (T := TX0) (N := 5) hx hb hts iw_X0_nearSide_X0 hown hK hP 0 rfl rfl 1 (by decide) (hts (.fieldLink RX0 9 "SoldHouse$Floor" "next" "[I") (List.mem_of_getElem? (i := 4) rfl)) (fun _ h9 => h9) rfl dX0_nearSide_21 ?_
  refine lv_iload_n hx hb dX0_nearSide_24 rfl (lv_at hl 1 rfl) ?_
  refine lv_dup2_11 hx hb dX0_nearSide_25 rfl rfl ?_
  refine va_iald hx hb hK hP 4 0 rfl rfl (zB_in by8 (by decide) (by decide)) dX0_nearSide_26 ?_
  refine lv_topi (fun y26 _ => ?_)
  refine lv_iconst (v := 1) hx hb dX0_nearSide_27 (by decide) ?_
  refine lv_iload_n hx hb dX0_nearSide_28 rfl (lv_at hl 0 rfl) ?_
  refine lv_ishl hx hb dX0_nearSide_29 ?_
  refine zi_top (a := 1) (b := 128) (zB_shl1 by18 (by decide) (by decide) (by decide) (by decide)) (fun y29 by29 => ?_)
  refine lv_ixor hx hb dX0_nearSide_30 ?_
  refine lv_topi (fun y30 _ => ?_)
  refine zi_iast hx hb hK hP hD hS 4 0 rfl rfl (zB_in by8 (by decide) (by decide)) dX0_nearSide_31 (fun H locs g31 eg31 hP hD hS => ?_)
  replace hP : va_P D classes [(FL, .inr (0, oX0 PL aFL FL_parting)), (PL, .inr (5, oX5 FO aPL PL_rooms PL_doors PL_things PL_draw PL_drawTold)), ((aPL 4), .inl (cI, 12, .inl PL_doorFrom)), ((aPL 5), .inl (cI, 12, .inl PL_doorTo)), ((aFL 1), .inl (cI, 8, .inl g31))] H := hP
  replace hD : va_D A [(FL, .inr (0, oX0 PL aFL FL_parting)), (PL, .inr (5, oX5 FO aPL PL_rooms PL_doors PL_things PL_draw PL_drawTold)), ((aPL 4), .inl (cI, 12, .inl PL_doorFrom)), ((aPL 5), .inl (cI, 12, .inl PL_doorTo)), ((aFL 1), .inl (cI, 8, .inl g31))] := hD
  clear eg31
  refine lv_aload_n hx hb dX0_nearSide_32 rfl (lv_at hl 2 rfl) ?_
  refine va_get (D := D) (ci := 0) (v := .ref (aFL 1)) (C := RX0) (T := TX0) (N := 5) hx hb hts iw_X0_nearSide_X0 hown hK hP 0 rfl rfl 1 (by decide) (hts (.fieldLink RX0 9 "SoldHouse$Floor" "next" "[I") (List.mem_of_getElem? (i := 4) rfl)) (fun _ h9 => h9) rfl dX0_nearSide_33 ?_
  refine lv_iload_n hx hb dX0_nearSide_36 rfl (lv_at hl 0 rfl) ?_
  refine lv_dup2_11 hx hb dX0_nearSide_37 rfl rfl ?_
  refine va_iald hx hb hK hP 4 0 rfl rfl (zB_in by18 (by decide) (by decide)) dX0_nearSide_38 ?_
  refine lv_topi (fun y38 _ => ?_)
  refine lv_iconst (v := 1) hx hb dX0_nearSide_39 (by decide) ?_
  refine lv_iload_n hx hb dX0_nearSide_40 rfl (lv_at hl 1 rfl) ?_
  refine lv_ishl hx hb dX0_nearSide_41 ?_
  refine zi_top (a := 1) (b := 128) (zB_shl1 by8 (by decide) (by decide) (by decide) (by decide)) (fun y41 by41 => ?_)
  refine lv_ixor hx hb dX0_nearSide_42 ?_
  refine lv_topi (fun y42 _ => ?_)
  refine zi_iast hx hb hK hP hD hS 4 0 rfl rfl (zB_in by18 (by decide) (by decide)) dX0_nearSide_43 (fun H locs g43 eg43 hP hD hS => ?_)
  replace hP : va_P D classes [(FL, .inr (0, oX0 PL aFL FL_parting)), (PL, .inr (5, oX5 FO aPL PL_rooms PL_doors PL_things PL_draw PL_drawTold)), ((aPL 4), .inl (cI, 12, .inl PL_doorFrom)), ((aPL 5), .inl (cI, 12, .inl PL_doorTo)), ((aFL 1), .inl (cI, 8, .inl g43))] H := hP
  replace hD : va_D A [(FL, .inr (0, oX0 PL aFL FL_parting)), (PL, .inr (5, oX5 FO aPL PL_rooms PL_doors PL_things PL_draw PL_drawTold)), ((aPL 4), .inl (cI, 12, .inl PL_doorFrom)), ((aPL 5), .inl (cI, 12, .inl PL_doorTo)), ((aFL 1), .inl (cI, 8, .inl g43))] := hD
  clear eg43
  refine lv_aload_n hx hb dX0_nearSide_44 rfl (lv_at hl 2 rfl) ?_
  refine lv_iload_n hx hb dX0_nearSide_45 rfl (lv_at hl 1 rfl) ?_
  refine lv_aload_n hx hb dX0_nearSide_46 rfl (lv_at hl 2 rfl) ?_
  have hPc := hP.sub (ws' := [(FL, .inr (0, oX0 PL aFL FL_parting)), (PL, .inr (5, oX5 FO aPL PL_rooms PL_doors PL_things PL_draw PL_drawTold))]) [0, 1] rfl
  refine vp_callSi (va_runV (As := []) (rest := [.int y8, .ref FL]) ⟨hx, hb, hml, hown, hts⟩ (c_X0_allRooms l D cI cB cL cZ cG FL PL aFL FL_parting PL_rooms aPL PL_doors PL_things FO PL_draw PL_drawTold b_PL_rooms b_PL_doors b_PL_things) (cwV 0 hts gX0_nearSide_X0_allRooms rfl rfl rfl (by decide +kernel) ⟨Nat.le_of_ble_eq_true rfl, Nat.le_of_ble_eq_true rfl⟩) ⟨xr_blind, va_recv hK hP (ci := 0) (q0 := 0) rfl rfl, fun U hU hW => xr_mk hU hW hPc hK⟩ rfl rfl hl.1 rfl (lv_room (Nat.le_of_ble_eq_true rfl)) dX0_nearSide_47 ⟨Nat.le_of_ble_eq_true rfl, Nat.le_of_ble_eq_true rfl⟩).run (fun r47 hr47 => ?_)
  clear hPc
  have hPc := hP.sub (ws' := [(FL, .inr (0, oX0 PL aFL FL_parting)), (PL, .inr (5, oX5 FO aPL PL_rooms PL_doors PL_things PL_draw PL_drawTold)), ((aFL 1), .inl (cI, 8, .inl g43))]) [0, 1, 4] rfl
  refine vp_callSi (va_runV (As := [.int y8, .int r47]) (rest := []) ⟨hx, hb, hml, hown, hts⟩ (c_X0_reach l D cI cB cL cZ cG FL y8 r47 PL aFL FL_parting PL_rooms aPL PL_doors PL_things FO PL_draw PL_drawTold g43 b_PL_rooms b_PL_doors b_PL_things) (cwV 2 hts gX0_nearSide_X0_reach rfl rfl rfl (by decide +kernel) ⟨Nat.le_of_ble_eq_true rfl, Nat.le_of_ble_eq_true rfl⟩) ⟨xr_blind, va_recv hK hP (ci := 0) (q0 := 0) rfl rfl, fun U hU hW => xr_mk hU hW hPc hK⟩ rfl rfl hl.1 rfl (lv_room (Nat.le_of_ble_eq_true rfl)) dX0_nearSide_50 ⟨Nat.le_of_ble_eq_true rfl, Nat.le_of_ble_eq_true rfl⟩).run (fun r50 hr50 => ?_)
  clear hPc
  clear hr50
  refine lv_istore (lv' := [(4, .int r50), (3, .int y18), (2, .int y8), (0, .ref FL), (1, .int x0)]) hx hb dX0_nearSide_53 hl (by decide) rfl (fun ls hl => ?_)
  refine lv_aload_n hx hb dX0_nearSide_55 rfl (lv_at hl 3 rfl) ?_
  refine va_get (D := D) (ci := 0) (v := .ref (aFL 1)) (C := RX0) (T := TX0) (N := 5) hx hb hts iw_X0_nearSide_X0 hown hK hP 0 rfl rfl 1 (by decide) (hts (.fieldLink RX0 9 "SoldHouse$Floor" "next" "[I") (List.mem_of_getElem? (i := 4) rfl)) (fun _ h9 => h9) rfl dX0_nearSide_56 ?_
  refine lv_iload_n hx hb dX0_nearSide_59 rfl (lv_at hl 2 rfl) ?_
  refine lv_dup2_11 hx hb dX0_nearSide_60 rfl rfl ?_
  refine va_iald hx hb hK hP 4 0 rfl rfl (zB_in by8 (by decide) (by decide)) dX0_nearSide_61 ?_
  refine lv_topi (fun y61 _ => ?_)
  refine lv_iconst (v := 1) hx hb dX0_nearSide_62 (by decide) ?_
  refine lv_iload_n hx hb dX0_nearSide_63 rfl (lv_at hl 1 rfl) ?_
  refine lv_ishl hx hb dX0_nearSide_64 ?_
  refine zi_top (a := 1) (b := 128) (zB_shl1 by18 (by decide) (by decide) (by decide) (by decide)) (fun y64 by64 => ?_)
  refine lv_ixor hx hb dX0_nearSide_65 ?_
  refine lv_topi (fun y65 _ => ?_)
  refine zi_iast hx hb hK hP hD hS 4 0 rfl rfl (zB_in by8 (by decide) (by decide)) dX0_nearSide_66 (fun H locs g66 eg66 hP hD hS => ?_)
  replace hP : va_P D classes [(FL, .inr (0, oX0 PL aFL FL_parting)), (PL, .inr (5, oX5 FO aPL PL_rooms PL_doors PL_things PL_draw PL_drawTold)), ((aPL 4), .inl (cI, 12, .inl PL_doorFrom)), ((aPL 5), .inl (cI, 12, .inl PL_doorTo)), ((aFL 1), .inl (cI, 8, .inl g66))] H := hP
  replace hD : va_D A [(FL, .inr (0, oX0 PL aFL FL_parting)), (PL, .inr (5, oX5 FO aPL PL_rooms PL_doors PL_things PL_draw PL_drawTold)), ((aPL 4), .inl (cI, 12, .inl PL_doorFrom)), ((aPL 5), .inl (cI, 12, .inl PL_doorTo)), ((aFL 1), .inl (cI, 8, .inl g66))] := hD
  clear eg66
  refine lv_aload_n hx hb dX0_nearSide_67 rfl (lv_at hl 3 rfl) ?_
  refine va_get (D := D) (ci := 0) (v := .ref (aFL 1)) (C := RX0) (T := TX0) (N := 5) hx hb hts iw_X0_nearSide_X0 hown hK hP 0 rfl rfl 1 (by decide) (hts (.fieldLink RX0 9 "SoldHouse$Floor" "next" "[I") (List.mem_of_getElem? (i := 4) rfl)) (fun _ h9 => h9) rfl dX0_nearSide_68 ?_
  refine lv_iload_n hx hb dX0_nearSide_71 rfl (lv_at hl 1 rfl) ?_
  refine lv_dup2_11 hx hb dX0_nearSide_72 rfl rfl ?_
  refine va_iald hx hb hK hP 4 0 rfl rfl (zB_in by18 (by decide) (by decide)) dX0_nearSide_73 ?_
  refine lv_topi (fun y73 _ => ?_)
  refine lv_iconst (v := 1) hx hb dX0_nearSide_74 (by decide) ?_
  refine lv_iload_n hx hb dX0_nearSide_75 rfl (lv_at hl 2 rfl) ?_
  refine lv_ishl hx hb dX0_nearSide_76 ?_
  refine zi_top (a := 1) (b := 128) (zB_shl1 by8 (by decide) (by decide) (by decide) (by decide)) (fun y76 by76 => ?_)
  refine lv_ixor hx hb dX0_nearSide_77 ?_
  refine lv_topi (fun y77 _ => ?_)
  refine zi_iast hx hb hK hP hD hS 4 0 rfl rfl (zB_in by18 (by decide) (by decide)) dX0_nearSide_78 (fun H locs g78 eg78 hP hD hS => ?_)
  replace hP : va_P D classes [(FL, .inr (0, oX0 PL aFL FL_parting)), (PL, .inr (5, oX5 FO aPL PL_rooms PL_doors PL_things PL_draw PL_drawTold)), ((aPL 4), .inl (cI, 12, .inl PL_doorFrom)), ((aPL 5), .inl (cI, 12, .inl PL_doorTo)), ((aFL 1), .inl (cI, 8, .inl g78))] H := hP
  replace hD : va_D A [(FL, .inr (0, oX0 PL aFL FL_parting)), (PL, .inr (5, oX5 FO aPL PL_rooms PL_doors PL_things PL_draw PL_drawTold)), ((aPL 4), .inl (cI, 12, .inl PL_doorFrom)), ((aPL 5), .inl (cI, 12, .inl PL_doorTo)), ((aFL 1), .inl (cI, 8, .inl g78))] := hD
  clear eg78
  refine lv_iload hx hb dX0_nearSide_79 (lv_at hl 0 rfl) ?_
  exact W.iret (v := r50) hx hb hr (fun t ht hW => ⟨⟨r50, (), rfl, trivial, ⟨g78, by rw [ht]; exact hP, hD⟩⟩, hS.F ht⟩) hS.2.2 dX0_nearSide_81
set_option maxHeartbeats 4000000 in
set_option maxRecDepth 100000 in
theorem c_X0_build (l : Launch) (D : va_G) (cI : ClassId) (cB : ClassId) (cL : ClassId) (cZ : ClassId) (cG : ClassId) (FL : Nat) (PL : Nat) (FP : Nat) (aFL : Nat → Nat) (FL_parting : Int32) (FL_next : Nat → Int32) (PL_rooms : Int32) (aPL : Nat → Nat) (PL_doors : Int32) (PL_things : Int32) (FO : Nat) (PL_draw : Int32) (PL_drawTold : Int32) (FL_far : Nat → Int32) (PL_doorFrom : Nat → Int32) (PL_doorTo : Nat → Int32) (FL_near : Nat → Int32) (sz : Nat) (b_PL_rooms : zB PL_rooms 0 8) (b_PL_doors : zB PL_doors 0 12) (b_PL_things : zB PL_things 0 6) (s_FL_far_0 : zA FL_far 0 64 (-1) 7) (s_PL_doorFrom_0 : zA PL_doorFrom 0 12 0 7) (s_PL_doorTo_0 : zA PL_doorTo 0 12 0 7) : Met l yX0_build wsX0_build ({ frames := 3, cells := 0, slots := 0, locals := 71 }) (xp D [(cI, .int), (cB, .byte), (cL, .long), (cZ, .boolean), (cG, .array .int)] [(FL, .inr (0, oX0 FP aFL FL_parting)), ((aFL 1), .inl (cI, 8, .inl FL_next)), (PL, .inr (5, oX5 FO aPL PL_rooms PL_doors PL_things PL_draw PL_drawTold)), ((aFL 2), .inl (cI, 64, .inl FL_far)), ((aPL 4), .inl (cI, 12, .inl PL_doorFrom)), ((aPL 5), .inl (cI, 12, .inl PL_doorTo)), ((aFL 3), .inl (cI, 12, .inl FL_near))] sz [] [.ref FL, .ref PL]) (va_Qv (fun _ : Unit => True) (fun (_ : Unit) (t : State) => ∃ (nFL_parting : Int32), ∃ (nFLnext : Nat → Int32), ∃ (nFLfar : Nat → Int32), ∃ (nFLnear : Nat → Int32), zA nFLfar 0 64 (-1) 7 ∧ xB D (va_A [(FL, .inr (0, oX0 FP aFL FL_parting)), ((aFL 1), .inl (cI, 8, .inl FL_next)), (PL, .inr (5, oX5 FO aPL PL_rooms PL_doors PL_things PL_draw PL_drawTold)), ((aFL 2), .inl (cI, 64, .inl FL_far)), ((aPL 4), .inl (cI, 12, .inl PL_doorFrom)), ((aPL 5), .inl (cI, 12, .inl PL_doorTo)), ((aFL 3), .inl (cI, 12, .inl FL_near))] sz) [(FL, .inr (0, oX0 PL aFL nFL_parting)), ((aFL 1), .inl (cI, 8, .inl nFLnext)), (PL, .inr (5, oX5 FO aPL PL_rooms PL_doors PL_things PL_draw PL_drawTold)), ((aFL 2), .inl (cI, 64, .inl nFLfar)), ((aPL 4), .inl (cI, 12, .inl PL_doorFrom)), ((aPL 5), .inl (cI, 12, .inl PL_doorTo)), ((aFL 3), .inl (cI, 12, .inl nFLnear))] t) (va_A [(FL, .inr (0, oX0 FP aFL FL_parting)), ((aFL 1), .inl (cI, 8, .inl FL_next)), (PL, .inr (5, oX5 FO aPL PL_rooms PL_doors PL_things PL_draw PL_drawTold)), ((aFL 2), .inl (cI, 64, .inl FL_far)), ((aPL 4), .inl (cI, 12, .inl PL_doorFrom)), ((aPL 5), .inl (cI, 12, .inl PL_doorTo)), ((aFL 3), .inl (cI, 12, .inl FL_near))] sz)) 0 0 (va_A [(FL, .inr (0, oX0 FP aFL FL_parting)), ((aFL 1), .inl (cI, 8, .inl FL_next)), (PL, .inr (5, oX5 FO aPL PL_rooms PL_doors PL_things PL_draw PL_drawTold)), ((aFL 2), .inl (cI, 64, .inl FL_far)), ((aPL 4), .inl (cI, 12, .inl PL_doorFrom)), ((aPL 5), .inl (cI, 12, .inl PL_doorTo)), ((aFL 3), .inl (cI, 12, .inl FL_near))] sz) := by
  refine Met.ofW (cc := cX0_build) (maxL := 3) (ret := none) (by decide) rfl ?_
  intro p e s m args below meth c s₁ B hml hv
  obtain ⟨rfl, hsz, hP, hK, hD0, hNw⟩ := hv
  have hx := B.exec
  have hb := B.bytes
  have hr := B.returns
  have hts := atoms_spec (ws := wsX0_build) B.pre
  have hown : s.vm.findClass RX0 = some m.cls := findClass_of_methodNamed B.named
  have hlocks := B.notSynchronized
  clear B
  subst hsz
  have hD := hD0.self (sz := s.heap.size)
  clear hD0 hNw
  generalize hAe : va_A [(FL, .inr (0, oX0 FP aFL FL_parting)), ((aFL 1), .inl (cI, 8, .inl FL_next)), (PL, .inr (5, oX5 FO aPL PL_rooms PL_doors PL_things PL_draw PL_drawTold)), ((aFL 2), .inl (cI, 64, .inl FL_far)), ((aPL 4), .inl (cI, 12, .inl PL_doorFrom)), ((aPL 5), .inl (cI, 12, .inl PL_doorTo)), ((aFL 3), .inl (cI, 12, .inl FL_near))] s.heap.size = A at hD ⊢
  have hA : ∀ q : Nat, s.heap.size ≤ q → A q := fun q h => by rw [← hAe]; exact Or.inr h
  have hS : va_S A s.heap s.heap [] := va_S.rf
  clear hAe
  obtain ⟨H, hH⟩ : ∃ H : Heap, H = s.heap := ⟨_, rfl⟩
  obtain ⟨locs, hlocs⟩ : ∃ L : List Loc, L = [] := ⟨_, rfl⟩
  replace hP : va_P D classes [(FL, .inr (0, oX0 FP aFL FL_parting)), ((aFL 1), .inl (cI, 8, .inl FL_next)), (PL, .inr (5, oX5 FO aPL PL_rooms PL_doors PL_things PL_draw PL_drawTold)), ((aFL 2), .inl (cI, 64, .inl FL_far)), ((aPL 4), .inl (cI, 12, .inl PL_doorFrom)), ((aPL 5), .inl (cI, 12, .inl PL_doorTo)), ((aFL 3), .inl (cI, 12, .inl FL_near))] H := by rw [hH]; exact hP
  replace hS : va_S A s.heap H locs := by rw [hH, hlocs]; exact hS
  rw [← hH, ← hlocs]
  clear hlocs hH
  have hl := lv_entry ([.ref FL, .ref PL]) (n := 3) (Nat.le_of_ble_eq_true rfl)
  rw [lg_entry_eq]
  generalize (lg_sl ([.ref FL, .ref PL]) ++ List.replicate (3 - (lg_sl ([.ref FL, .ref PL])).length) Slot.unset).toArray = ls at hl ⊢
  replace hl : lv_has ls 3 [(0, .ref FL), (1, .ref PL)] := hl
  refine zz_abs (R := ({ frames := 3, cells := 0, slots := 0, locals := 71 } : Room)) (fun Q up => ?_)
  refine lv_aload_n hx hb dX0_build_0 rfl (lv_at hl 0 rfl) ?_
  refine lv_aload_n hx hb dX0_build_1 rfl (lv_at hl 1 rfl) ?_
  refine va_put (D := D) (ci := 0) (v := .ref PL) (ty := tyX0 0) (C := RX0) (T := TX0) (N := 5) hx hb hts iw_X0_build_X0 tyX0 tyX0_ok nmX0 hown hK hP hD hS 0 rfl rfl 0 (by decide) (hts (.fieldLink RX0 21 "SoldHouse$Floor" "plan" "LSoldHouse$Plan;") (List.mem_of_getElem? (i := 1) rfl)) (fun _ h9 => h9) rfl (by decide +kernel) rfl rfl (Nat.le_of_ble_eq_true rfl) dX0_build_2 (fun H locs hP hD hS => ?_)
  replace hP : va_P D classes [(FL, .inr (0, oX0 PL aFL FL_parting)), ((aFL 1), .inl (cI, 8, .inl FL_next)), (PL, .inr (5, oX5 FO aPL PL_rooms PL_doors PL_things PL_draw PL_drawTold)), ((aFL 2), .inl (cI, 64, .inl FL_far)), ((aPL 4), .inl (cI, 12, .inl PL_doorFrom)), ((aPL 5), .inl (cI, 12, .inl PL_doorTo)), ((aFL 3), .inl (cI, 12, .inl FL_near))] H := hP
  replace hD : va_D A [(FL, .inr (0, oX0 PL aFL FL_parting)), ((aFL 1), .inl (cI, 8, .inl FL_next)), (PL, .inr (5, oX5 FO aPL PL_rooms PL_doors PL_things PL_draw PL_drawTold)), ((aFL 2), .inl (cI, 64, .inl FL_far)), ((aPL 4), .inl (cI, 12, .inl PL_doorFrom)), ((aPL 5), .inl (cI, 12, .inl PL_doorTo)), ((aFL 3), .inl (cI, 12, .inl FL_near))] := hD
  refine lv_aload_n hx hb dX0_build_5 rfl (lv_at hl 0 rfl) ?_
  refine va_get (D := D) (ci := 0) (v := .ref (aFL 1)) (C := RX0) (T := TX0) (N := 5) hx hb hts iw_X0_build_X0 hown hK hP 0 rfl rfl 1 (by decide) (hts (.fieldLink RX0 9 "SoldHouse$Floor" "next" "[I") (List.mem_of_getElem? (i := 2) rfl)) (fun _ h9 => h9) rfl dX0_build_6 ?_
  refine lv_iconst (v := 0) hx hb dX0_build_9 (by decide) ?_
  have hPc := hP.sub (ws' := [((aFL 1), .inl (cI, 8, .inl FL_next))]) [1] rfl
  have hDc := hD.sub (ws' := [((aFL 1), .inl (cI, 8, .inl FL_next))]) [1] (by decide) rfl
  have hFc := va_free (wc := [((aFL 1), .inl (cI, 8, .inl FL_next))]) hD hS hA [1] rfl
  refine va_callv (va_runS (As := [.ref (aFL 1), .int 0]) (rest := []) ⟨hx, hb, hml, hown, hts⟩ (c_fill8 l D cI cB cL cZ cG (aFL 1) FL_next 0 H.size) (va_cwS 2 hts gX0_build_J7_fill_53178 rfl rfl rfl (by decide +kernel) ⟨Nat.le_of_ble_eq_true rfl, Nat.le_of_ble_eq_true rfl⟩) ⟨xp_blind, fun U hU hW => xp_mk hU hW hPc hK hDc xNw_nil⟩ rfl rfl hl.1 rfl (lv_room (Nat.le_of_ble_eq_true rfl)) dX0_build_10 ⟨Nat.le_of_ble_eq_true rfl, Nat.le_of_ble_eq_true rfl⟩) hS (fun q _ h => hFc q h) hFc (fun u9 t9 H1 locs ht9 hvm9 hr10 hB9 hz9 hk9 hS => ?_)
  obtain ⟨o10_narf, hP1, hD1⟩ := hB9
  rw [ht9] at hP1
  obtain ⟨hP, hD⟩ := va_join (wr := [(FL, .inr (0, oX0 PL aFL FL_parting)), (PL, .inr (5, oX5 FO aPL PL_rooms PL_doors PL_things PL_draw PL_drawTold)), ((aFL 2), .inl (cI, 64, .inl FL_far)), ((aPL 4), .inl (cI, 12, .inl PL_doorFrom)), ((aPL 5), .inl (cI, 12, .inl PL_doorTo)), ((aFL 3), .inl (cI, 12, .inl FL_near))]) (w1 := [((aFL 1), .inl (cI, 8, .inl o10_narf))]) hP hD [1] [0, 2, 3, 4, 5, 6] rfl rfl (by decide) (by decide) hk9 hFc hP1 hD1
  clear hz9 hPc hDc hP1 hD1 hk9 hFc ht9 hvm9 u9 t9
  generalize H1 = H at hP hS ⊢
  replace hP : va_P D classes [(FL, .inr (0, oX0 PL aFL FL_parting)), ((aFL 1), .inl (cI, 8, .inl o10_narf)), (PL, .inr (5, oX5 FO aPL PL_rooms PL_doors PL_things PL_draw PL_drawTold)), ((aFL 2), .inl (cI, 64, .inl FL_far)), ((aPL 4), .inl (cI, 12, .inl PL_doorFrom)), ((aPL 5), .inl (cI, 12, .inl PL_doorTo)), ((aFL 3), .inl (cI, 12, .inl FL_near))] H := hP.sub [0, 6, 1, 2, 3, 4, 5] rfl
  replace hD : va_D A [(FL, .inr (0, oX0 PL aFL FL_parting)), ((aFL 1), .inl (cI, 8, .inl o10_narf)), (PL, .inr (5, oX5 FO aPL PL_rooms PL_doors PL_things PL_draw PL_drawTold)), ((aFL 2), .inl (cI, 64, .inl FL_far)), ((aPL 4), .inl (cI, 12, .inl PL_doorFrom)), ((aPL 5), .inl (cI, 12, .inl PL_doorTo)), ((aFL 3), .inl (cI, 12, .inl FL_near))] := hD.sub [0, 6, 1, 2, 3, 4, 5] (by decide) rfl
  refine lv_iconst (v := 0) hx hb dX0_build_13 (by decide) ?_
  have j15 : ∀ (n15 : Nat) (H : Heap) (locs : List Loc) (ls : Array Slot) (v15_2 : Int32) (g15_aFL1 : Nat → Int32), zB v15_2 0 12 → zA FL_far 0 64 (-1) 7 → zA PL_doorFrom 0 12 0 7 → zA PL_doorTo 0 12 0 7 → (12 + 1 - v15_2.toInt) ≤ (n15 : Int) → va_P D classes [(FL, .inr (0, oX0 PL aFL FL_parting)), ((aFL 1), .inl (cI, 8, .inl g15_aFL1)), (PL, .inr (5, oX5 FO aPL PL_rooms PL_doors PL_things PL_draw PL_drawTold)), ((aFL 2), .inl (cI, 64, .inl FL_far)), ((aPL 4), .inl (cI, 12, .inl PL_doorFrom)), ((aPL 5), .inl (cI, 12, .inl PL_doorTo)), ((aFL 3), .inl (cI, 12, .inl FL_near))] H → va_D A [(FL, .inr (0, oX0 PL aFL FL_parting)), ((aFL 1), .inl (cI, 8, .inl g15_aFL1)), (PL, .inr (5, oX5 FO aPL PL_rooms PL_doors PL_things PL_draw PL_drawTold)), ((aFL 2), .inl (cI, 64, .inl FL_far)), ((aPL 4), .inl (cI, 12, .inl PL_doorFrom)), ((aPL 5), .inl (cI, 12, .inl PL_doorTo)), ((aFL 3), .inl (cI, 12, .inl FL_near))] → va_S A s.heap H locs → lv_has ls 3 [(2, .int v15_2), (0, .ref FL), (1, .ref PL)] → W p l e ({ frames := 3, cells := 0, slots := 0, locals := 71 } : Room) s m ([.ref FL, .ref PL] : List Value).toArray below meth c H locs 0 0 Q (F0 m 15 ls []) := by
    intro n15
    induction n15 with
    | zero => intro H locs ls v15_2 g15_aFL1 bv15_2_k15 sFL_far_0_k15 sPL_doorFrom_0_k15 sPL_doorTo_0_k15 hm15 hP hD hS hl; exact zM_u0 bv15_2_k15 hm15
    | succ n15 ih15 =>
      intro H locs ls v15_2 g15_aFL1 bv15_2_k15 sFL_far_0_k15 sPL_doorFrom_0_k15 sPL_doorTo_0_k15 hm15 hP hD hS hl
      refine lv_iload_n hx hb dX0_build_15 rfl (lv_at hl 0 rfl) ?_
      refine lv_aload_n hx hb dX0_build_16 rfl (lv_at hl 1 rfl) ?_
      refine va_get (D := D) (ci := 0) (v := .ref PL) (C := RX0) (T := TX0) (N := 5) hx hb hts iw_X0_build_X0 hown hK hP 0 rfl rfl 0 (by decide) (hts (.fieldLink RX0 21 "SoldHouse$Floor" "plan" "LSoldHouse$Plan;") (List.mem_of_getElem? (i := 1) rfl)) (fun _ h9 => h9) rfl dX0_build_17 ?_
      refine va_get (D := D) (ci := 5) (v := .int PL_doors) (C := RX5) (T := TX5) (N := 16) hx hb hts iw_X0_build_X5 hown hK hP 2 rfl rfl 3 (by decide) (hts (.fieldLink RX0 31 "SoldHouse$Plan" "doors" "I") (List.mem_of_getElem? (i := 3) rfl)) (fun _ h9 => h9) rfl dX0_build_20 ?_
      refine lv_icmp_ge (tgt := 88) hx hb dX0_build_23 (by decide) (fun c23 => ?_) (fun c23 => ?_)
      · refine lv_aload_n hx hb dX0_build_88 rfl (lv_at hl 1 rfl) ?_
        refine va_get (D := D) (ci := 0) (v := .ref (aFL 2)) (C := RX0) (T := TX0) (N := 5) hx hb hts iw_X0_build_X0 hown hK hP 0 rfl rfl 2 (by decide) (hts (.fieldLink RX0 15 "SoldHouse$Floor" "far" "[I") (List.mem_of_getElem? (i := 6) rfl)) (fun _ h9 => h9) rfl dX0_build_89 ?_
        refine lv_iconst (v := (-1)) hx hb dX0_build_92 (by decide) ?_
        have hPc := hP.sub (ws' := [((aFL 2), .inl (cI, 64, .inl FL_far))]) [3] rfl
        have hDc := hD.sub (ws' := [((aFL 2), .inl (cI, 64, .inl FL_far))]) [3] (by decide) rfl
        have hFc := va_free (wc := [((aFL 2), .inl (cI, 64, .inl FL_far))]) hD hS hA [3] rfl
        refine va_callv (va_runS (As := [.ref (aFL 2), .int (-1)]) (rest := []) ⟨hx, hb, hml, hown, hts⟩ (c_fill64 l D cI cB cL cZ cG (aFL 2) FL_far (-1) H.size (zB_w (show zB (-1) (-1) (-1) from ⟨by decide, by decide⟩) (by decide) (by decide)) sFL_far_0_k15) (va_cwS 2 hts gX0_build_J7_fill_53178 rfl rfl rfl (by decide +kernel) ⟨Nat.le_of_ble_eq_true rfl, Nat.le_of_ble_eq_true rfl⟩) ⟨xp_blind, fun U hU hW => xp_mk hU hW hPc hK hDc xNw_nil⟩ rfl rfl hl.1 rfl (lv_room (Nat.le_of_ble_eq_true rfl)) dX0_build_93 ⟨Nat.le_of_ble_eq_true rfl, Nat.le_of_ble_eq_true rfl⟩) hS (fun q _ h => hFc q h) hFc (fun u9 t9 H1 locs ht9 hvm9 hr93 hB9 hz9 hk9 hS => ?_)
        obtain ⟨o93_narf, so93_narf_0, hP1, hD1⟩ := hB9
        rw [ht9] at hP1
        obtain ⟨hP, hD⟩ := va_join (wr := [(FL, .inr (0, oX0 PL aFL FL_parting)), ((aFL 1), .inl (cI, 8, .inl g15_aFL1)), (PL, .inr (5, oX5 FO aPL PL_rooms PL_doors PL_things PL_draw PL_drawTold)), ((aPL 4), .inl (cI, 12, .inl PL_doorFrom)), ((aPL 5), .inl (cI, 12, .inl PL_doorTo)), ((aFL 3), .inl (cI, 12, .inl FL_near))]) (w1 := [((aFL 2), .inl (cI, 64, .inl o93_narf))]) hP hD [3] [0, 1, 2, 4, 5, 6] rfl rfl (by decide) (by decide) hk9 hFc hP1 hD1
        clear hz9 hPc hDc hP1 hD1 hk9 hFc ht9 hvm9 u9 t9
        generalize H1 = H at hP hS ⊢
        replace hP : va_P D classes [(FL, .inr (0, oX0 PL aFL FL_parting)), ((aFL 1), .inl (cI, 8, .inl g15_aFL1)), (PL, .inr (5, oX5 FO aPL PL_rooms PL_doors PL_things PL_draw PL_drawTold)), ((aFL 2), .inl (cI, 64, .inl o93_narf)), ((aPL 4), .inl (cI, 12, .inl PL_doorFrom)), ((aPL 5), .inl (cI, 12, .inl PL_doorTo)), ((aFL 3), .inl (cI, 12, .inl FL_near))] H := hP.sub [0, 1, 2, 6, 3, 4, 5] rfl
        replace hD : va_D A [(FL, .inr (0, oX0 PL aFL FL_parting)), ((aFL 1), .inl (cI, 8, .inl g15_aFL1)), (PL, .inr (5, oX5 FO aPL PL_rooms PL_doors PL_things PL_draw PL_drawTold)), ((aFL 2), .inl (cI, 64, .inl o93_narf)), ((aPL 4), .inl (cI, 12, .inl PL_doorFrom)), ((aPL 5), .inl (cI, 12, .inl PL_doorTo)), ((aFL 3), .inl (cI, 12, .inl FL_near))] := hD.sub [0, 1, 2, 6, 3, 4, 5] (by decide) rfl
        refine lv_iconst (v := 0) hx hb dX0_build_96 (by decide) ?_
        have j98 : ∀ (n98 : Nat) (H : Heap) (locs : List Loc) (ls : Array Slot) (v98_2 : Int32) (g98_aFL2 : Nat → Int32), zB v98_2 0 8 → zA g98_aFL2 0 64 (-1) 7 → zA PL_doorFrom 0 12 0 7 → zA PL_doorTo 0 12 0 7 → (8 + 1 - v98_2.toInt) ≤ (n98 : Int) → va_P D classes [(FL, .inr (0, oX0 PL aFL FL_parting)), ((aFL 1), .inl (cI, 8, .inl g15_aFL1)), (PL, .inr (5, oX5 FO aPL PL_rooms PL_doors PL_things PL_draw PL_drawTold)), ((aFL 2), .inl (cI, 64, .inl g98_aFL2)), ((aPL 4), .inl (cI, 12, .inl PL_doorFrom)), ((aPL 5), .inl (cI, 12, .inl PL_doorTo)), ((aFL 3), .inl (cI, 12, .inl FL_near))] H → va_D A [(FL, .inr (0, oX0 PL aFL FL_parting)), ((aFL 1), .inl (cI, 8, .inl g15_aFL1)), (PL, .inr (5, oX5 FO aPL PL_rooms PL_doors PL_things PL_draw PL_drawTold)), ((aFL 2), .inl (cI, 64, .inl g98_aFL2)), ((aPL 4), .inl (cI, 12, .inl PL_doorFrom)), ((aPL 5), .inl (cI, 12, .inl PL_doorTo)), ((aFL 3), .inl (cI, 12, .inl FL_near))] → va_S A s.heap H locs → lv_has ls 3 [(2, .int v98_2), (0, .ref FL), (1, .ref PL)] → W p l e ({ frames := 3, cells := 0, slots := 0, locals := 71 } : Room) s m ([.ref FL, .ref PL] : List Value).toArray below meth c H locs 0 0 Q (F0 m 98 ls []) := by
          intro n98
          induction n98 with
          | zero => intro H locs ls v98_2 g98_aFL2 bv98_2_k98 sg98_aFL2_0_k98 sPL_doorFrom_0_k98 sPL_doorTo_0_k98 hm98 hP hD hS hl; exact zM_u0 bv98_2_k98 hm98
          | succ n98 ih98 =>
            intro H locs ls v98_2 g98_aFL2 bv98_2_k98 sg98_aFL2_0_k98 sPL_doorFrom_0_k98 sPL_doorTo_0_k98 hm98 hP hD hS hl
            refine lv_iload_n hx hb dX0_build_98 rfl (lv_at hl 0 rfl) ?_
            refine lv_aload_n hx hb dX0_build_99 rfl (lv_at hl 1 rfl) ?_
            refine va_get (D := D) (ci := 0) (v := .ref PL) (C := RX0) (T := TX0) (N := 5) hx hb hts iw_X0_build_X0 hown hK hP 0 rfl rfl 0 (by decide) (hts (.fieldLink RX0 21 "SoldHouse$Floor" "plan" "LSoldHouse$Plan;") (List.mem_of_getElem? (i := 1) rfl)) (fun _ h9 => h9) rfl dX0_build_100 ?_
            refine va_get (D := D) (ci := 5) (v := .int PL_rooms) (C := RX5) (T := TX5) (N := 16) hx hb hts iw_X0_build_X5 hown hK hP 2 rfl rfl 0 (by decide) (hts (.fieldLink RX0 43 "SoldHouse$Plan" "rooms" "I") (List.mem_of_getElem? (i := 7) rfl)) (fun _ h9 => h9) rfl dX0_build_103 ?_
            refine lv_icmp_ge (tgt := 120) hx hb dX0_build_106 (by decide) (fun c106 => ?_) (fun c106 => ?_)
            · refine lv_aload_n hx hb dX0_build_120 rfl (lv_at hl 1 rfl) ?_
              refine lv_iconst (v := 0) hx hb dX0_build_121 (by decide) ?_
              refine va_put (D := D) (ci := 0) (v := .int 0) (ty := tyX0 4) (C := RX0) (T := TX0) (N := 5) hx hb hts iw_X0_build_X0 tyX0 tyX0_ok nmX0 hown hK hP hD hS 0 rfl rfl 4 (by decide) (hts (.fieldLink RX0 50 "SoldHouse$Floor" "parting" "I") (List.mem_of_getElem? (i := 8) rfl)) (fun _ h9 => h9) rfl (by decide +kernel) rfl rfl (Nat.le_of_ble_eq_true rfl) dX0_build_122 (fun H locs hP hD hS => ?_)
              replace hP : va_P D classes [(FL, .inr (0, oX0 PL aFL 0)), ((aFL 1), .inl (cI, 8, .inl g15_aFL1)), (PL, .inr (5, oX5 FO aPL PL_rooms PL_doors PL_things PL_draw PL_drawTold)), ((aFL 2), .inl (cI, 64, .inl g98_aFL2)), ((aPL 4), .inl (cI, 12, .inl PL_doorFrom)), ((aPL 5), .inl (cI, 12, .inl PL_doorTo)), ((aFL 3), .inl (cI, 12, .inl FL_near))] H := hP
              replace hD : va_D A [(FL, .inr (0, oX0 PL aFL 0)), ((aFL 1), .inl (cI, 8, .inl g15_aFL1)), (PL, .inr (5, oX5 FO aPL PL_rooms PL_doors PL_things PL_draw PL_drawTold)), ((aFL 2), .inl (cI, 64, .inl g98_aFL2)), ((aPL 4), .inl (cI, 12, .inl PL_doorFrom)), ((aPL 5), .inl (cI, 12, .inl PL_doorTo)), ((aFL 3), .inl (cI, 12, .inl FL_near))] := hD
              refine lv_iconst (v := 0) hx hb dX0_build_125 (by decide) ?_
              have j127 : ∀ (n127 : Nat) (H : Heap) (locs : List Loc) (ls : Array Slot) (v127_2 : Int32) (w127_FL_4 : Int32) (g127_aFL1 : Nat → Int32) (g127_aFL3 : Nat → Int32), zB v127_2 0 12 → zA g98_aFL2 0 64 (-1) 7 → zA PL_doorFrom 0 12 0 7 → zA PL_doorTo 0 12 0 7 → (12 + 1 - v127_2.toInt) ≤ (n127 : Int) → va_P D classes [(FL, .inr (0, oX0 PL aFL w127_FL_4)), ((aFL 1), .inl (cI, 8, .inl g127_aFL1)), (PL, .inr (5, oX5 FO aPL PL_rooms PL_doors PL_things PL_draw PL_drawTold)), ((aFL 2), .inl (cI, 64, .inl g98_aFL2)), ((aPL 4), .inl (cI, 12, .inl PL_doorFrom)), ((aPL 5), .inl (cI, 12, .inl PL_doorTo)), ((aFL 3), .inl (cI, 12, .inl g127_aFL3))] H → va_D A [(FL, .inr (0, oX0 PL aFL w127_FL_4)), ((aFL 1), .inl (cI, 8, .inl g127_aFL1)), (PL, .inr (5, oX5 FO aPL PL_rooms PL_doors PL_things PL_draw PL_drawTold)), ((aFL 2), .inl (cI, 64, .inl g98_aFL2)), ((aPL 4), .inl (cI, 12, .inl PL_doorFrom)), ((aPL 5), .inl (cI, 12, .inl PL_doorTo)), ((aFL 3), .inl (cI, 12, .inl g127_aFL3))] → va_S A s.heap H locs → lv_has ls 3 [(2, .int v127_2), (0, .ref FL), (1, .ref PL)] → W p l e ({ frames := 3, cells := 0, slots := 0, locals := 71 } : Room) s m ([.ref FL, .ref PL] : List Value).toArray below meth c H locs 0 0 Q (F0 m 127 ls []) := by
                intro n127
                induction n127 with
                | zero => intro H locs ls v127_2 w127_FL_4 g127_aFL1 g127_aFL3 bv127_2_k127 sg98_aFL2_0_k127 sPL_doorFrom_0_k127 sPL_doorTo_0_k127 hm127 hP hD hS hl; exact zM_u0 bv127_2_k127 hm127
                | succ n127 ih127 =>
                  intro H locs ls v127_2 w127_FL_4 g127_aFL1 g127_aFL3 bv127_2_k127 sg98_aFL2_0_k127 sPL_doorFrom_0_k127 sPL_doorTo_0_k127 hm127 hP hD hS hl
                  refine lv_iload_n hx hb dX0_build_127 rfl (lv_at hl 0 rfl) ?_
                  refine lv_aload_n hx hb dX0_build_128 rfl (lv_at hl 1 rfl) ?_
                  refine va_get (D := D) (ci := 0) (v := .ref PL) (C := RX0) (T := TX0) (N := 5) hx hb hts iw_X0_build_X0 hown hK hP 0 rfl rfl 0 (by decide) (hts (.fieldLink RX0 21 "SoldHouse$Floor" "plan" "LSoldHouse$Plan;") (List.mem_of_getElem? (i := 1) rfl)) (fun _ h9 => h9) rfl dX0_build_129 ?_
                  refine va_get (D := D) (ci := 5) (v := .int PL_doors) (C := RX5) (T := TX5) (N := 16) hx hb hts iw_X0_build_X5 hown hK hP 2 rfl rfl 3 (by decide) (hts (.fieldLink RX0 31 "SoldHouse$Plan" "doors" "I") (List.mem_of_getElem? (i := 3) rfl)) (fun _ h9 => h9) rfl dX0_build_132 ?_
                  refine lv_icmp_ge (tgt := 188) hx hb dX0_build_135 (by decide) (fun c135 => ?_) (fun c135 => ?_)
                  · exact up _ _ _ (W.vret hx hb hr (fun t ht hW => ⟨⟨(), rfl, trivial, ⟨w127_FL_4, g127_aFL1, g98_aFL2, g127_aFL3, sg98_aFL2_0_k127, by rw [ht]; exact hP, hD⟩⟩, hS.F ht⟩) hS.2.2 dX0_build_188)
                  · have bx135f_v127_2 : zB v127_2 0 11 := zB_ltu (zf c135) bv127_2_k127 b_PL_doors (by decide)
                    have by135f_PL_doors : zB PL_doors 1 12 := zB_ltv (zf c135) bx135f_v127_2 b_PL_doors (by decide)
                    refine lv_aload_n hx hb dX0_build_138 rfl (lv_at hl 1 rfl) ?_
                    refine va_get (D := D) (ci := 0) (v := .ref (aFL 3)) (C := RX0) (T := TX0) (N := 5) hx hb hts iw_X0_build_X0 hown hK hP 0 rfl rfl 3 (by decide) (hts (.fieldLink RX0 18 "SoldHouse$Floor" "near" "[I") (List.mem_of_getElem? (i := 9) rfl)) (fun _ h9 => h9) rfl dX0_build_139 ?_
                    refine lv_iload_n hx hb dX0_build_142 rfl (lv_at hl 0 rfl) ?_
                    refine lv_aload_n hx hb dX0_build_143 rfl (lv_at hl 1 rfl) ?_
                    refine lv_iload_n hx hb dX0_build_144 rfl (lv_at hl 0 rfl) ?_
                    have hPc := hP.sub (ws' := [(FL, .inr (0, oX0 PL aFL w127_FL_4)), (PL, .inr (5, oX5 FO aPL PL_rooms PL_doors PL_things PL_draw PL_drawTold)), ((aPL 4), .inl (cI, 12, .inl PL_doorFrom)), ((aPL 5), .inl (cI, 12, .inl PL_doorTo)), ((aFL 1), .inl (cI, 8, .inl g127_aFL1))]) [0, 2, 4, 5, 1] rfl
                    have hDc := hD.sub (ws' := [(FL, .inr (0, oX0 PL aFL w127_FL_4)), (PL, .inr (5, oX5 FO aPL PL_rooms PL_doors PL_things PL_draw PL_drawTold)), ((aPL 4), .inl (cI, 12, .inl PL_doorFrom)), ((aPL 5), .inl (cI, 12, .inl PL_doorTo)), ((aFL 1), .inl (cI, 8, .inl g127_aFL1))]) [0, 2, 4, 5, 1] (by decide) rfl
                    have hFc := va_free (wc := [(FL, .inr (0, oX0 PL aFL w127_FL_4)), (PL, .inr (5, oX5 FO aPL PL_rooms PL_doors PL_things PL_draw PL_drawTold)), ((aPL 4), .inl (cI, 12, .inl PL_doorFrom)), ((aPL 5), .inl (cI, 12, .inl PL_doorTo)), ((aFL 1), .inl (cI, 8, .inl g127_aFL1))]) hD hS hA [0, 2, 4, 5, 1] rfl
                    refine va_calli (va_runV (As := [.int v127_2]) (rest := [.int v127_2, .ref (aFL 3)]) ⟨hx, hb, hml, hown, hts⟩ (c_X0_nearSide l D cI cB cL cZ cG FL v127_2 PL aFL w127_FL_4 PL_rooms aPL PL_doors PL_things FO PL_draw PL_drawTold PL_doorFrom PL_doorTo g127_aFL1 H.size bx135f_v127_2 b_PL_rooms (zB_w by135f_PL_doors (by decide) (by decide)) b_PL_things sPL_doorFrom_0_k127 sPL_doorTo_0_k127) (cwV 1 hts gX0_build_X0_nearSide rfl rfl rfl (by decide +kernel) ⟨Nat.le_of_ble_eq_true rfl, Nat.le_of_ble_eq_true rfl⟩) ⟨xp_blind, va_recv hK hP (ci := 0) (q0 := 0) rfl rfl, fun U hU hW => xp_mk hU hW hPc hK hDc xNw_nil⟩ rfl rfl hl.1 rfl (lv_room (Nat.le_of_ble_eq_true rfl)) dX0_build_145 ⟨Nat.le_of_ble_eq_true rfl, Nat.le_of_ble_eq_true rfl⟩) hS (fun q _ h => hFc q h) hFc (fun r145 u9 t9 H1 locs ht9 hvm9 hr145 hB9 hz9 hk9 hS => ?_)
                    obtain ⟨o145_nFLnext, hP1, hD1⟩ := hB9
                    rw [ht9] at hP1
                    obtain ⟨hP, hD⟩ := va_join (wr := [((aFL 2), .inl (cI, 64, .inl g98_aFL2)), ((aFL 3), .inl (cI, 12, .inl g127_aFL3))]) (w1 := [(FL, .inr (0, oX0 PL aFL w127_FL_4)), (PL, .inr (5, oX5 FO aPL PL_rooms PL_doors PL_things PL_draw PL_drawTold)), ((aPL 4), .inl (cI, 12, .inl PL_doorFrom)), ((aPL 5), .inl (cI, 12, .inl PL_doorTo)), ((aFL 1), .inl (cI, 8, .inl o145_nFLnext))]) hP hD [0, 2, 4, 5, 1] [3, 6] rfl rfl (by decide) (by decide) hk9 hFc hP1 hD1
                    clear hz9 hPc hDc hP1 hD1 hk9 hFc ht9 hvm9 u9 t9
                    generalize H1 = H at hP hS ⊢
                    replace hP : va_P D classes [(FL, .inr (0, oX0 PL aFL w127_FL_4)), ((aFL 1), .inl (cI, 8, .inl o145_nFLnext)), (PL, .inr (5, oX5 FO aPL PL_rooms PL_doors PL_things PL_draw PL_drawTold)), ((aFL 2), .inl (cI, 64, .inl g98_aFL2)), ((aPL 4), .inl (cI, 12, .inl PL_doorFrom)), ((aPL 5), .inl (cI, 12, .inl PL_doorTo)), ((aFL 3), .inl (cI, 12, .inl g127_aFL3))] H := hP.sub [2, 6, 3, 0, 4, 5, 1] rfl
                    replace hD : va_D A [(FL, .inr (0, oX0 PL aFL w127_FL_4)), ((aFL 1), .inl (cI, 8, .inl o145_nFLnext)), (PL, .inr (5, oX5 FO aPL PL_rooms PL_doors PL_things PL_draw PL_drawTold)), ((aFL 2), .inl (cI, 64, .inl g98_aFL2)), ((aPL 4), .inl (cI, 12, .inl PL_doorFrom)), ((aPL 5), .inl (cI, 12, .inl PL_doorTo)), ((aFL 3), .inl (cI, 12, .inl g127_aFL3))] := hD.sub [2, 6, 3, 0, 4, 5, 1] (by decide) rfl
                    clear hr145
                    refine zi_iast hx hb hK hP hD hS 6 0 rfl rfl (zB_in bx135f_v127_2 (by decide) (by decide)) dX0_build_148 (fun H locs g148 eg148 hP hD hS => ?_)
                    replace hP : va_P D classes [(FL, .inr (0, oX0 PL aFL w127_FL_4)), ((aFL 1), .inl (cI, 8, .inl o145_nFLnext)), (PL, .inr (5, oX5 FO aPL PL_rooms PL_doors PL_things PL_draw PL_drawTold)), ((aFL 2), .inl (cI, 64, .inl g98_aFL2)), ((aPL 4), .inl (cI, 12, .inl PL_doorFrom)), ((aPL 5), .inl (cI, 12, .inl PL_doorTo)), ((aFL 3), .inl (cI, 12, .inl g148))] H := hP
                    replace hD : va_D A [(FL, .inr (0, oX0 PL aFL w127_FL_4)), ((aFL 1), .inl (cI, 8, .inl o145_nFLnext)), (PL, .inr (5, oX5 FO aPL PL_rooms PL_doors PL_things PL_draw PL_drawTold)), ((aFL 2), .inl (cI, 64, .inl g98_aFL2)), ((aPL 4), .inl (cI, 12, .inl PL_doorFrom)), ((aPL 5), .inl (cI, 12, .inl PL_doorTo)), ((aFL 3), .inl (cI, 12, .inl g148))] := hD
                    clear eg148
                    refine lv_aload_n hx hb dX0_build_149 rfl (lv_at hl 1 rfl) ?_
                    refine va_get (D := D) (ci := 0) (v := .ref (aFL 3)) (C := RX0) (T := TX0) (N := 5) hx hb hts iw_X0_build_X0 hown hK hP 0 rfl rfl 3 (by decide) (hts (.fieldLink RX0 18 "SoldHouse$Floor" "near" "[I") (List.mem_of_getElem? (i := 9) rfl)) (fun _ h9 => h9) rfl dX0_build_150 ?_
                    refine lv_iload_n hx hb dX0_build_153 rfl (lv_at hl 0 rfl) ?_
                    refine va_iald hx hb hK hP 6 0 rfl rfl (zB_in bx135f_v127_2 (by decide) (by decide)) dX0_build_154 ?_
                    refine lv_topi (fun y154 _ => ?_)
                    refine lv_aload_n hx hb dX0_build_155 rfl (lv_at hl 1 rfl) ?_
                    refine va_get (D := D) (ci := 0) (v := .ref PL) (C := RX0) (T := TX0) (N := 5) hx hb hts iw_X0_build_X0 hown hK hP 0 rfl rfl 0 (by decide) (hts (.fieldLink RX0 21 "SoldHouse$Floor" "plan" "LSoldHouse$Plan;") (List.mem_of_getElem? (i := 1) rfl)) (fun _ h9 => h9) rfl dX0_build_156 ?_
                    refine va_get (D := D) (ci := 5) (v := .ref (aPL 5)) (C := RX5) (T := TX5) (N := 16) hx hb hts iw_X0_build_X5 hown hK hP 2 rfl rfl 5 (by decide) (hts (.fieldLink RX0 40 "SoldHouse$Plan" "doorTo" "[I") (List.mem_of_getElem? (i := 5) rfl)) (fun _ h9 => h9) rfl dX0_build_159 ?_
                    refine lv_iload_n hx hb dX0_build_162 rfl (lv_at hl 0 rfl) ?_
                    refine va_iald hx hb hK hP 5 0 rfl rfl (zB_in bx135f_v127_2 (by decide) (by decide)) dX0_build_163 ?_
                    refine zi_top (a := 0) (b := 7) (zA_at sPL_doorTo_0_k127 bx135f_v127_2 (by decide) (by decide)) (fun y163 by163 => ?_)
                    refine lv_ishr hx hb dX0_build_164 ?_
                    refine lv_topi (fun y164 _ => ?_)
                    refine lv_iconst (v := 1) hx hb dX0_build_165 (by decide) ?_
                    refine lv_iand hx hb dX0_build_166 ?_
                    refine zi_top (a := 0) (b := 1) (zB_andr (show zB 1 1 1 from ⟨by decide, by decide⟩) (by decide)) (fun y166 by166 => ?_)
                    have j182 : ∀ (H : Heap) (locs : List Loc) (ls : Array Slot) (w182_FL_4 : Int32), zA g98_aFL2 0 64 (-1) 7 → zA PL_doorFrom 0 12 0 7 → zA PL_doorTo 0 12 0 7 → va_P D classes [(FL, .inr (0, oX0 PL aFL w182_FL_4)), ((aFL 1), .inl (cI, 8, .inl o145_nFLnext)), (PL, .inr (5, oX5 FO aPL PL_rooms PL_doors PL_things PL_draw PL_drawTold)), ((aFL 2), .inl (cI, 64, .inl g98_aFL2)), ((aPL 4), .inl (cI, 12, .inl PL_doorFrom)), ((aPL 5), .inl (cI, 12, .inl PL_doorTo)), ((aFL 3), .inl (cI, 12, .inl g148))] H → va_D A [(FL, .inr (0, oX0 PL aFL w182_FL_4)), ((aFL 1), .inl (cI, 8, .inl o145_nFLnext)), (PL, .inr (5, oX5 FO aPL PL_rooms PL_doors PL_things PL_draw PL_drawTold)), ((aFL 2), .inl (cI, 64, .inl g98_aFL2)), ((aPL 4), .inl (cI, 12, .inl PL_doorFrom)), ((aPL 5), .inl (cI, 12, .inl PL_doorTo)), ((aFL 3), .inl (cI, 12, .inl g148))] → va_S A s.heap H locs → lv_has ls 3 [(2, .int v127_2), (0, .ref FL), (1, .ref PL)] → W p l e ({ frames := 3, cells := 0, slots := 0, locals := 71 } : Room) s m ([.ref FL, .ref PL] : List Value).toArray below meth c H locs 0 0 Q (F0 m 182 ls []) := by
                      intro H locs ls w182_FL_4 sg98_aFL2_0_k182 sPL_doorFrom_0_k182 sPL_doorTo_0_k182 hP hD hS hl
                      obtain ⟨y182, by182, ry182, ey182⟩ := zi_inc (x := v127_2) (k := 1) (a := 1) (b := 12) bx135f_v127_2 (by decide) (by decide) (by decide) (by decide) (by decide)
                      refine lv_iinc (v := y182) (lv' := [(2, .int y182), (0, .ref FL), (1, .ref PL)]) hx hb dX0_build_182 hl (k := 0) rfl ey182 (by decide) rfl (fun ls hl => ?_)
                      refine lv_goto (tgt := 127) hx hb dX0_build_185 (by decide) ?_
                      exact ih127 H locs ls y182 w182_FL_4 o145_nFLnext g148 (zB_w by182 (by decide) (by decide)) sg98_aFL2_0_k182 sPL_doorFrom_0_k182 sPL_doorTo_0_k182 (zM_us (k := 1) hm127 ry182 (by decide)) hP hD hS (lv_sub hl [0, 1, 2] rfl)
                    refine lv_if_ne (tgt := 182) hx hb dX0_build_167 (by decide) (fun c167 => ?_) (fun c167 => ?_)
                    · have bn167t_y166 : zB y166 1 1 := zB_neL c167 by166 (show zB 0 0 0 from ⟨by decide, by decide⟩) (by decide)
                      exact j182 H locs ls w127_FL_4 sg98_aFL2_0_k127 sPL_doorFrom_0_k127 sPL_doorTo_0_k127 hP hD hS (lv_sub hl [0, 1, 2] rfl)
                    · have be167f_y166 : zB y166 0 0 := zB_eq c167 by166 (show zB 0 0 0 from ⟨by decide, by decide⟩) (by decide) (by decide)
                      refine lv_aload_n hx hb dX0_build_170 rfl (lv_at hl 1 rfl) ?_
                      refine lv_dup hx hb dX0_build_171 rfl ?_
                      refine va_get (D := D) (ci := 0) (v := .int w127_FL_4) (C := RX0) (T := TX0) (N := 5) hx hb hts iw_X0_build_X0 hown hK hP 0 rfl rfl 4 (by decide) (hts (.fieldLink RX0 50 "SoldHouse$Floor" "parting" "I") (List.mem_of_getElem? (i := 8) rfl)) (fun _ h9 => h9) rfl dX0_build_172 ?_
                      refine lv_iconst (v := 1) hx hb dX0_build_175 (by decide) ?_
                      refine lv_iload_n hx hb dX0_build_176 rfl (lv_at hl 0 rfl) ?_
                      refine lv_ishl hx hb dX0_build_177 ?_
                      refine zi_top (a := 1) (b := 2048) (zB_shl1 bx135f_v127_2 (by decide) (by decide) (by decide) (by decide)) (fun y177 by177 => ?_)
                      refine lv_ior hx hb dX0_build_178 ?_
                      refine lv_topi (fun y178 _ => ?_)
                      refine va_put (D := D) (ci := 0) (v := .int y178) (ty := tyX0 4) (C := RX0) (T := TX0) (N := 5) hx hb hts iw_X0_build_X0 tyX0 tyX0_ok nmX0 hown hK hP hD hS 0 rfl rfl 4 (by decide) (hts (.fieldLink RX0 50 "SoldHouse$Floor" "parting" "I") (List.mem_of_getElem? (i := 8) rfl)) (fun _ h9 => h9) rfl (by decide +kernel) rfl rfl (Nat.le_of_ble_eq_true rfl) dX0_build_179 (fun H locs hP hD hS => ?_)
                      replace hP : va_P D classes [(FL, .inr (0, oX0 PL aFL y178)), ((aFL 1), .inl (cI, 8, .inl o145_nFLnext)), (PL, .inr (5, oX5 FO aPL PL_rooms PL_doors PL_things PL_draw PL_drawTold)), ((aFL 2), .inl (cI, 64, .inl g98_aFL2)), ((aPL 4), .inl (cI, 12, .inl PL_doorFrom)), ((aPL 5), .inl (cI, 12, .inl PL_doorTo)), ((aFL 3), .inl (cI, 12, .inl g148))] H := hP
                      replace hD : va_D A [(FL, .inr (0, oX0 PL aFL y178)), ((aFL 1), .inl (cI, 8, .inl o145_nFLnext)), (PL, .inr (5, oX5 FO aPL PL_rooms PL_doors PL_things PL_draw PL_drawTold)), ((aFL 2), .inl (cI, 64, .inl g98_aFL2)), ((aPL 4), .inl (cI, 12, .inl PL_doorFrom)), ((aPL 5), .inl (cI, 12, .inl PL_doorTo)), ((aFL 3), .inl (cI, 12, .inl g148))] := hD
                      exact j182 H locs ls y178 sg98_aFL2_0_k127 sPL_doorFrom_0_k127 sPL_doorTo_0_k127 hP hD hS (lv_sub hl [0, 1, 2] rfl)
              refine lv_istore_n (lv' := [(2, .int 0), (0, .ref FL), (1, .ref PL)]) hx hb dX0_build_126 rfl hl (by decide) rfl (fun ls hl => ?_)
              exact j127 13 H locs ls 0 0 g15_aFL1 FL_near (zB_w (show zB 0 0 0 from ⟨by decide, by decide⟩) (by decide) (by decide)) sg98_aFL2_0_k98 sPL_doorFrom_0_k98 sPL_doorTo_0_k98 (zM_ui (show zB 0 0 0 from ⟨by decide, by decide⟩) (by decide)) hP hD hS (lv_sub hl [0, 1, 2] rfl)
            · have bx106f_v98_2 : zB v98_2 0 7 := zB_ltu (zf c106) bv98_2_k98 b_PL_rooms (by decide)
              have by106f_PL_rooms : zB PL_rooms 1 8 := zB_ltv (zf c106) bx106f_v98_2 b_PL_rooms (by decide)
              refine lv_aload_n hx hb dX0_build_109 rfl (lv_at hl 1 rfl) ?_
              refine lv_iload_n hx hb dX0_build_110 rfl (lv_at hl 0 rfl) ?_
              have hPc := hP.sub (ws' := [(FL, .inr (0, oX0 PL aFL FL_parting)), (PL, .inr (5, oX5 FO aPL PL_rooms PL_doors PL_things PL_draw PL_drawTold)), ((aFL 2), .inl (cI, 64, .inl g98_aFL2)), ((aFL 1), .inl (cI, 8, .inl g15_aFL1))]) [0, 2, 3, 1] rfl
              have hDc := hD.sub (ws' := [(FL, .inr (0, oX0 PL aFL FL_parting)), (PL, .inr (5, oX5 FO aPL PL_rooms PL_doors PL_things PL_draw PL_drawTold)), ((aFL 2), .inl (cI, 64, .inl g98_aFL2)), ((aFL 1), .inl (cI, 8, .inl g15_aFL1))]) [0, 2, 3, 1] (by decide) rfl
              have hFc := va_free (wc := [(FL, .inr (0, oX0 PL aFL FL_parting)), (PL, .inr (5, oX5 FO aPL PL_rooms PL_doors PL_things PL_draw PL_drawTold)), ((aFL 2), .inl (cI, 64, .inl g98_aFL2)), ((aFL 1), .inl (cI, 8, .inl g15_aFL1))]) hD hS hA [0, 2, 3, 1] rfl
              refine va_callv (va_runV (As := [.int v98_2]) (rest := []) ⟨hx, hb, hml, hown, hts⟩ (c_X0_measureFrom l D cI cB cL cZ cG FL v98_2 PL aFL FL_parting PL_rooms aPL PL_doors PL_things FO PL_draw PL_drawTold g98_aFL2 g15_aFL1 H.size bx106f_v98_2 (zB_w by106f_PL_rooms (by decide) (by decide)) b_PL_doors b_PL_things sg98_aFL2_0_k98) (cwV 1 hts gX0_build_X0_measureFrom rfl rfl rfl (by decide +kernel) ⟨Nat.le_of_ble_eq_true rfl, Nat.le_of_ble_eq_true rfl⟩) ⟨xp_blind, va_recv hK hP (ci := 0) (q0 := 0) rfl rfl, fun U hU hW => xp_mk hU hW hPc hK hDc xNw_nil⟩ rfl rfl hl.1 rfl (lv_room (Nat.le_of_ble_eq_true rfl)) dX0_build_111 ⟨Nat.le_of_ble_eq_true rfl, Nat.le_of_ble_eq_true rfl⟩) hS (fun q _ h => hFc q h) hFc (fun u9 t9 H1 locs ht9 hvm9 hr111 hB9 hz9 hk9 hS => ?_)
              obtain ⟨o111_nFLfar, so111_nFLfar_0, hP1, hD1⟩ := hB9
              rw [ht9] at hP1
              obtain ⟨hP, hD⟩ := va_join (wr := [((aPL 4), .inl (cI, 12, .inl PL_doorFrom)), ((aPL 5), .inl (cI, 12, .inl PL_doorTo)), ((aFL 3), .inl (cI, 12, .inl FL_near))]) (w1 := [(FL, .inr (0, oX0 PL aFL FL_parting)), (PL, .inr (5, oX5 FO aPL PL_rooms PL_doors PL_things PL_draw PL_drawTold)), ((aFL 2), .inl (cI, 64, .inl o111_nFLfar)), ((aFL 1), .inl (cI, 8, .inl g15_aFL1))]) hP hD [0, 2, 3, 1] [4, 5, 6] rfl rfl (by decide) (by decide) hk9 hFc hP1 hD1
              clear hz9 hPc hDc hP1 hD1 hk9 hFc ht9 hvm9 u9 t9
              generalize H1 = H at hP hS ⊢
              replace hP : va_P D classes [(FL, .inr (0, oX0 PL aFL FL_parting)), ((aFL 1), .inl (cI, 8, .inl g15_aFL1)), (PL, .inr (5, oX5 FO aPL PL_rooms PL_doors PL_things PL_draw PL_drawTold)), ((aFL 2), .inl (cI, 64, .inl o111_nFLfar)), ((aPL 4), .inl (cI, 12, .inl PL_doorFrom)), ((aPL 5), .inl (cI, 12, .inl PL_doorTo)), ((aFL 3), .inl (cI, 12, .inl FL_near))] H := hP.sub [3, 6, 4, 5, 0, 1, 2] rfl
              replace hD : va_D A [(FL, .inr (0, oX0 PL aFL FL_parting)), ((aFL 1), .inl (cI, 8, .inl g15_aFL1)), (PL, .inr (5, oX5 FO aPL PL_rooms PL_doors PL_things PL_draw PL_drawTold)), ((aFL 2), .inl (cI, 64, .inl o111_nFLfar)), ((aPL 4), .inl (cI, 12, .inl PL_doorFrom)), ((aPL 5), .inl (cI, 12, .inl PL_doorTo)), ((aFL 3), .inl (cI, 12, .inl FL_near))] := hD.sub [3, 6, 4, 5, 0, 1, 2] (by decide) rfl
              obtain ⟨y114, by114, ry114, ey114⟩ := zi_inc (x := v98_2) (k := 1) (a := 1) (b := 8) bx106f_v98_2 (by decide) (by decide) (by decide) (by decide) (by decide)
              refine lv_iinc (v := y114) (lv' := [(2, .int y114), (0, .ref FL), (1, .ref PL)]) hx hb dX0_build_114 hl (k := 0) rfl ey114 (by decide) rfl (fun ls hl => ?_)
              refine lv_goto (tgt := 98) hx hb dX0_build_117 (by decide) ?_
              exact ih98 H locs ls y114 o111_nFLfar (zB_w by114 (by decide) (by decide)) so111_nFLfar_0 sPL_doorFrom_0_k98 sPL_doorTo_0_k98 (zM_us (k := 1) hm98 ry114 (by decide)) hP hD hS (lv_sub hl [0, 1, 2] rfl)
        refine lv_istore_n (lv' := [(2, .int 0), (0, .ref FL), (1, .ref PL)]) hx hb dX0_build_97 rfl hl (by decide) rfl (fun ls hl => ?_)
        exact j98 9 H locs ls 0 o93_narf (zB_w (show zB 0 0 0 from ⟨by decide, by decide⟩) (by decide) (by decide)) so93_narf_0 sPL_doorFrom_0_k15 sPL_doorTo_0_k15 (zM_ui (show zB 0 0 0 from ⟨by decide, by decide⟩) (by decide)) hP hD hS (lv_sub hl [0, 1, 2] rfl)
      · have bx23f_v15_2 : zB v15_2 0 11 := zB_ltu (zf c23) bv15_2_k15 b_PL_doors (by decide)
        have by23f_PL_doors : zB PL_doors 1 12 := zB_ltv (zf c23) bx23f_v15_2 b_PL_doors (by decide)
        refine lv_aload_n hx hb dX0_build_26 rfl (lv_at hl 1 rfl) ?_
        refine va_get (D := D) (ci := 0) (v := .ref (aFL 1)) (C := RX0) (T := TX0) (N := 5) hx hb hts iw_X0_build_X0 hown hK hP 0 rfl rfl 1 (by decide) (hts (.fieldLink RX0 9 "SoldHouse$Floor" "next" "[I") (List.mem_of_getElem? (i := 2) rfl)) (fun _ h9 => h9) rfl dX0_build_27 ?_
        refine lv_aload_n hx hb dX0_build_30 rfl (lv_at hl 1 rfl) ?_
        refine va_get (D := D) (ci := 0) (v := .ref PL) (C := RX0) (T := TX0) (N := 5) hx hb hts iw_X0_build_X0 hown hK hP 0 rfl rfl 0 (by decide) (hts (.fieldLink RX0 21 "SoldHouse$Floor" "plan" "LSoldHouse$Plan;") (List.mem_of_getElem? (i := 1) rfl)) (fun _ h9 => h9) rfl dX0_build_31 ?_
        refine va_get (D := D) (ci := 5) (v := .ref (aPL 4)) (C := RX5) (T := TX5) (N := 16) hx hb hts iw_X0_build_X5 hown hK hP 2 rfl rfl 4 (by decide) (hts (.fieldLink RX0 37 "SoldHouse$Plan" "doorFrom" "[I") (List.mem_of_getElem? (i := 4) rfl)) (fun _ h9 => h9) rfl dX0_build_34 ?_
        refine lv_iload_n hx hb dX0_build_37 rfl (lv_at hl 0 rfl) ?_
        refine va_iald hx hb hK hP 4 0 rfl rfl (zB_in bx23f_v15_2 (by decide) (by decide)) dX0_build_38 ?_
        refine zi_top (a := 0) (b := 7) (zA_at sPL_doorFrom_0_k15 bx23f_v15_2 (by decide) (by decide)) (fun y38 by38 => ?_)
        refine lv_dup2_11 hx hb dX0_build_39 rfl rfl ?_
        refine va_iald hx hb hK hP 1 0 rfl rfl (zB_in by38 (by decide) (by decide)) dX0_build_40 ?_
        refine lv_topi (fun y40 _ => ?_)
        refine lv_iconst (v := 1) hx hb dX0_build_41 (by decide) ?_
        refine lv_aload_n hx hb dX0_build_42 rfl (lv_at hl 1 rfl) ?_
        refine va_get (D := D) (ci := 0) (v := .ref PL) (C := RX0) (T := TX0) (N := 5) hx hb hts iw_X0_build_X0 hown hK hP 0 rfl rfl 0 (by decide) (hts (.fieldLink RX0 21 "SoldHouse$Floor" "plan" "LSoldHouse$Plan;") (List.mem_of_getElem? (i := 1) rfl)) (fun _ h9 => h9) rfl dX0_build_43 ?_
        refine va_get (D := D) (ci := 5) (v := .ref (aPL 5)) (C := RX5) (T := TX5) (N := 16) hx hb hts iw_X0_build_X5 hown hK hP 2 rfl rfl 5 (by decide) (hts (.fieldLink RX0 40 "SoldHouse$Plan" "doorTo" "[I") (List.mem_of_getElem? (i := 5) rfl)) (fun _ h9 => h9) rfl dX0_build_46 ?_
        refine lv_iload_n hx hb dX0_build_49 rfl (lv_at hl 0 rfl) ?_
        refine va_iald hx hb hK hP 5 0 rfl rfl (zB_in bx23f_v15_2 (by decide) (by decide)) dX0_build_50 ?_
        refine zi_top (a := 0) (b := 7) (zA_at sPL_doorTo_0_k15 bx23f_v15_2 (by decide) (by decide)) (fun y50 by50 => ?_)
        refine lv_ishl hx hb dX0_build_51 ?_
        refine zi_top (a := 1) (b := 128) (zB_shl1 by50 (by decide) (by decide) (by decide) (by decide)) (fun y51 by51 => ?_)
        refine lv_ior hx hb dX0_build_52 ?_
        refine lv_topi (fun y52 _ => ?_)
        refine zi_iast hx hb hK hP hD hS 1 0 rfl rfl (zB_in by38 (by decide) (by decide)) dX0_build_53 (fun H locs g53 eg53 hP hD hS => ?_)
        replace hP : va_P D classes [(FL, .inr (0, oX0 PL aFL FL_parting)), ((aFL 1), .inl (cI, 8, .inl g53)), (PL, .inr (5, oX5 FO aPL PL_rooms PL_doors PL_things PL_draw PL_drawTold)), ((aFL 2), .inl (cI, 64, .inl FL_far)), ((aPL 4), .inl (cI, 12, .inl PL_doorFrom)), ((aPL 5), .inl (cI, 12, .inl PL_doorTo)), ((aFL 3), .inl (cI, 12, .inl FL_near))] H := hP
        replace hD : va_D A [(FL, .inr (0, oX0 PL aFL FL_parting)), ((aFL 1), .inl (cI, 8, .inl g53)), (PL, .inr (5, oX5 FO aPL PL_rooms PL_doors PL_things PL_draw PL_drawTold)), ((aFL 2), .inl (cI, 64, .inl FL_far)), ((aPL 4), .inl (cI, 12, .inl PL_doorFrom)), ((aPL 5), .inl (cI, 12, .inl PL_doorTo)), ((aFL 3), .inl (cI, 12, .inl FL_near))] := hD
        clear eg53
        refine lv_aload_n hx hb dX0_build_54 rfl (lv_at hl 1 rfl) ?_
        refine va_get (D := D) (ci := 0) (v := .ref (aFL 1)) (C := RX0) (T := TX0) (N := 5) hx hb hts iw_X0_build_X0 hown hK hP 0 rfl rfl 1 (by decide) (hts (.fieldLink RX0 9 "SoldHouse$Floor" "next" "[I") (List.mem_of_getElem? (i := 2) rfl)) (fun _ h9 => h9) rfl dX0_build_55 ?_
        refine lv_aload_n hx hb dX0_build_58 rfl (lv_at hl 1 rfl) ?_
        refine va_get (D := D) (ci := 0) (v := .ref PL) (C := RX0) (T := TX0) (N := 5) hx hb hts iw_X0_build_X0 hown hK hP 0 rfl rfl 0 (by decide) (hts (.fieldLink RX0 21 "SoldHouse$Floor" "plan" "LSoldHouse$Plan;") (List.mem_of_getElem? (i := 1) rfl)) (fun _ h9 => h9) rfl dX0_build_59 ?_
        refine va_get (D := D) (ci := 5) (v := .ref (aPL 5)) (C := RX5) (T := TX5) (N := 16) hx hb hts iw_X0_build_X5 hown hK hP 2 rfl rfl 5 (by decide) (hts (.fieldLink RX0 40 "SoldHouse$Plan" "doorTo" "[I") (List.mem_of_getElem? (i := 5) rfl)) (fun _ h9 => h9) rfl dX0_build_62 ?_
        refine lv_iload_n hx hb dX0_build_65 rfl (lv_at hl 0 rfl) ?_
        refine va_iald hx hb hK hP 5 0 rfl rfl (zB_in bx23f_v15_2 (by decide) (by decide)) dX0_build_66 ?_
        refine zi_top (a := 0) (b := 7) (zA_at sPL_doorTo_0_k15 bx23f_v15_2 (by decide) (by decide)) (fun y66 by66 => ?_)
        refine lv_dup2_11 hx hb dX0_build_67 rfl rfl ?_
        refine va_iald hx hb hK hP 1 0 rfl rfl (zB_in by66 (by decide) (by decide)) dX0_build_68 ?_
        refine lv_topi (fun y68 _ => ?_)
        refine lv_iconst (v := 1) hx hb dX0_build_69 (by decide) ?_
        refine lv_aload_n hx hb dX0_build_70 rfl (lv_at hl 1 rfl) ?_
        refine va_get (D := D) (ci := 0) (v := .ref PL) (C := RX0) (T := TX0) (N := 5) hx hb hts iw_X0_build_X0 hown hK hP 0 rfl rfl 0 (by decide) (hts (.fieldLink RX0 21 "SoldHouse$Floor" "plan" "LSoldHouse$Plan;") (List.mem_of_getElem? (i := 1) rfl)) (fun _ h9 => h9) rfl dX0_build_71 ?_
        refine va_get (D := D) (ci := 5) (v := .ref (aPL 4)) (C := RX5) (T := TX5) (N := 16) hx hb hts iw_X0_build_X5 hown hK hP 2 rfl rfl 4 (by decide) (hts (.fieldLink RX0 37 "SoldHouse$Plan" "doorFrom" "[I") (List.mem_of_getElem? (i := 4) rfl)) (fun _ h9 => h9) rfl dX0_build_74 ?_
        refine lv_iload_n hx hb dX0_build_77 rfl (lv_at hl 0 rfl) ?_
        refine va_iald hx hb hK hP 4 0 rfl rfl (zB_in bx23f_v15_2 (by decide) (by decide)) dX0_build_78 ?_
        refine zi_top (a := 0) (b := 7) (zA_at sPL_doorFrom_0_k15 bx23f_v15_2 (by decide) (by decide)) (fun y78 by78 => ?_)
        refine lv_ishl hx hb dX0_build_79 ?_
        refine zi_top (a := 1) (b := 128) (zB_shl1 by78 (by decide) (by decide) (by decide) (by decide)) (fun y79 by79 => ?_)
        refine lv_ior hx hb dX0_build_80 ?_
        refine lv_topi (fun y80 _ => ?_)
        refine zi_iast hx hb hK hP hD hS 1 0 rfl rfl (zB_in by66 (by decide) (by decide)) dX0_build_81 (fun H locs g81 eg81 hP hD hS => ?_)
        replace hP : va_P D classes [(FL, .inr (0, oX0 PL aFL FL_parting)), ((aFL 1), .inl (cI, 8, .inl g81)), (PL, .inr (5, oX5 FO aPL PL_rooms PL_doors PL_things PL_draw PL_drawTold)), ((aFL 2), .inl (cI, 64, .inl FL_far)), ((aPL 4), .inl (cI, 12, .inl PL_doorFrom)), ((aPL 5), .inl (cI, 12, .inl PL_doorTo)), ((aFL 3), .inl (cI, 12, .inl FL_near))] H := hP
        replace hD : va_D A [(FL, .inr (0, oX0 PL aFL FL_parting)), ((aFL 1), .inl (cI, 8, .inl g81)), (PL, .inr (5, oX5 FO aPL PL_rooms PL_doors PL_things PL_draw PL_drawTold)), ((aFL 2), .inl (cI, 64, .inl FL_far)), ((aPL 4), .inl (cI, 12, .inl PL_doorFrom)), ((aPL 5), .inl (cI, 12, .inl PL_doorTo)), ((aFL 3), .inl (cI, 12, .inl FL_near))] := hD
        clear eg81
        obtain ⟨y82, by82, ry82, ey82⟩ := zi_inc (x := v15_2) (k := 1) (a := 1) (b := 12) bx23f_v15_2 (by decide) (by decide) (by decide) (by decide) (by decide)
        refine lv_iinc (v := y82) (lv' := [(2, .int y82), (0, .ref FL), (1, .ref PL)]) hx hb dX0_build_82 hl (k := 0) rfl ey82 (by decide) rfl (fun ls hl => ?_)
        refine lv_goto (tgt := 15) hx hb dX0_build_85 (by decide) ?_
        exact ih15 H locs ls y82 g81 (zB_w by82 (by decide) (by decide)) sFL_far_0_k15 sPL_doorFrom_0_k15 sPL_doorTo_0_k15 (zM_us (k := 1) hm15 ry82 (by decide)) hP hD hS (lv_sub hl [0, 1, 2] rfl)
  refine lv_istore_n (lv' := [(2, .int 0), (0, .ref FL), (1, .ref PL)]) hx hb dX0_build_14 rfl hl (by decide) rfl (fun ls hl => ?_)
  exact j15 13 H locs ls 0 o10_narf (zB_w (show zB 0 0 0 from ⟨by decide, by decide⟩) (by decide) (by decide)) s_FL_far_0 s_PL_doorFrom_0 s_PL_doorTo_0 (zM_ui (show zB 0 0 0 from ⟨by decide, by decide⟩) (by decide)) hP hD hS (lv_sub hl [0, 1, 2] rfl)
set_option maxHeartbeats 4000000 in
set_option maxRecDepth 100000 in
theorem c_X1_clear (l : Launch) (D : va_G) (cI : ClassId) (cB : ClassId) (cL : ClassId) (cZ : ClassId) (cG : ClassId) (FO : Nat) (aFO : Nat → Nat) (FO_size : Int32) (FO_units : Int32) (FO_told : Int32) (sz : Nat) (b_FO_size : zB FO_size 0 400) : Met l yX1_clear wsX1_clear ({ frames := 0, cells := 0, slots := 0, locals := 0 }) (xp D [(cI, .int), (cB, .byte), (cL, .long), (cZ, .boolean), (cG, .array .int)] [(FO, .inr (1, oX1 aFO FO_size FO_units FO_told))] sz [] [.ref FO]) (va_Qv (fun _ : Unit => True) (fun (_ : Unit) (t : State) => ∃ (nFO_size : Int32), ∃ (nFO_units : Int32), ∃ (nFO_told : Int32), zB nFO_size 0 0 ∧ zB nFO_units 0 0 ∧ zB nFO_told 0 0 ∧ xB D (va_A [(FO, .inr (1, oX1 aFO FO_size FO_units FO_told))] sz) [(FO, .inr (1, oX1 aFO nFO_size nFO_units nFO_told))] t) (va_A [(FO, .inr (1, oX1 aFO FO_size FO_units FO_told))] sz)) 0 0 (va_A [(FO, .inr (1, oX1 aFO FO_size FO_units FO_told))] sz) := by
  refine Met.ofW (cc := cX1_clear) (maxL := 1) (ret := none) (by decide) rfl ?_
  intro p e s m args below meth c s₁ B hml hv
  obtain ⟨rfl, hsz, hP, hK, hD0, hNw⟩ := hv
  have hx := B.exec
  have hb := B.bytes
  have hr := B.returns
  have hts := atoms_spec (ws := wsX1_clear) B.pre
  have hown : s.vm.findClass RX1 = some m.cls := findClass_of_methodNamed B.named
  have hlocks := B.notSynchronized
  clear B
  subst hsz
  have hD := hD0.self (sz := s.heap.size)
  clear hD0 hNw
  generalize hAe : va_A [(FO, .inr (1, oX1 aFO FO_size FO_units FO_told))] s.heap.size = A at hD ⊢
  have hA : ∀ q : Nat, s.heap.size ≤ q → A q := fun q h => by rw [← hAe]; exact Or.inr h
  have hS : va_S A s.heap s.heap [] := va_S.rf
  clear hAe
  obtain ⟨H, hH⟩ : ∃ H : Heap, H = s.heap := ⟨_, rfl⟩
  obtain ⟨locs, hlocs⟩ : ∃ L : List Loc, L = [] := ⟨_, rfl⟩
  replace hP : va_P D classes [(FO, .inr (1, oX1 aFO FO_size FO_units FO_told))] H := by rw [hH]; exact hP
  replace hS : va_S A s.heap H locs := by rw [hH, hlocs]; exact hS
  rw [← hH, ← hlocs]
  clear hlocs hH
  have hl := lv_entry ([.ref FO]) (n := 1) (Nat.le_of_ble_eq_true rfl)
  rw [lg_entry_eq]
  generalize (lg_sl ([.ref FO]) ++ List.replicate (1 - (lg_sl ([.ref FO])).length) Slot.unset).toArray = ls at hl ⊢
  replace hl : lv_has ls 1 [(0, .ref FO)] := hl
  refine lv_aload_n hx hb dX1_clear_0 rfl (lv_at hl 0 rfl) ?_
  refine lv_iconst (v := 0) hx hb dX1_clear_1 (by decide) ?_
  refine va_put (D := D) (ci := 1) (v := .int 0) (ty := tyX1 3) (C := RX1) (T := TX1) (N := 6) hx hb hts iw_X1_clear_X1 tyX1 tyX1_ok nmX1 hown hK hP hD hS 0 rfl rfl 3 (by decide) (hts (.fieldLink RX1 19 "SoldHouse$Formula" "size" "I") (List.mem_of_getElem? (i := 1) rfl)) (fun _ h9 => h9) rfl (by decide +kernel) rfl rfl (Nat.le_of_ble_eq_true rfl) dX1_clear_2 (fun H locs hP hD hS => ?_)
  replace hP : va_P D classes [(FO, .inr (1, oX1 aFO 0 FO_units FO_told))] H := hP
  replace hD : va_D A [(FO, .inr (1, oX1 aFO 0 FO_units FO_told))] := hD
  refine lv_aload_n hx hb dX1_clear_5 rfl (lv_at hl 0 rfl) ?_
  refine lv_iconst (v := 0) hx hb dX1_clear_6 (by decide) ?_
  refine va_put (D := D) (ci := 1) (v := .int 0) (ty := tyX1 4) (C := RX1) (T := TX1) (N := 6) hx hb hts iw_X1_clear_X1 tyX1 tyX1_ok nmX1 hown hK hP hD hS 0 rfl rfl 4 (by decide) (hts (.fieldLink RX1 23 "SoldHouse$Formula" "units" "I") (List.mem_of_getElem? (i := 2) rfl)) (fun _ h9 => h9) rfl (by decide +kernel) rfl rfl (Nat.le_of_ble_eq_true rfl) dX1_clear_7 (fun H locs hP hD hS => ?_)
  replace hP : va_P D classes [(FO, .inr (1, oX1 aFO 0 0 FO_told))] H := hP
  replace hD : va_D A [(FO, .inr (1, oX1 aFO 0 0 FO_told))] := hD
  refine lv_aload_n hx hb dX1_clear_10 rfl (lv_at hl 0 rfl) ?_
  refine lv_iconst (v := 0) hx hb dX1_clear_11 (by decide) ?_
  refine va_put (D := D) (ci := 1) (v := .int 0) (ty := tyX1 5) (C := RX1) (T := TX1) (N := 6) hx hb hts iw_X1_clear_X1 tyX1 tyX1_ok nmX1 hown hK hP hD hS 0 rfl rfl 5 (by decide) (hts (.fieldLink RX1 26 "SoldHouse$Formula" "told" "Z") (List.mem_of_getElem? (i := 3) rfl)) (fun _ h9 => h9) rfl (by decide +kernel) rfl rfl (Nat.le_of_ble_eq_true rfl) dX1_clear_12 (fun H locs hP hD hS => ?_)
  replace hP : va_P D classes [(FO, .inr (1, oX1 aFO 0 0 0))] H := hP
  replace hD : va_D A [(FO, .inr (1, oX1 aFO 0 0 0))] := hD
  exact W.vret hx hb hr (fun t ht hW => ⟨⟨(), rfl, trivial, ⟨0, 0, 0, (show zB 0 0 0 from ⟨by decide, by decide⟩), (show zB 0 0 0 from ⟨by decide, by decide⟩), (show zB 0 0 0 from ⟨by decide, by decide⟩), by rw [ht]; exact hP, hD⟩⟩, hS.F ht⟩) hS.2.2 dX1_clear_15
set_option maxHeartbeats 4000000 in
set_option maxRecDepth 100000 in
theorem c_X5_clear (l : Launch) (D : va_G) (cI : ClassId) (cB : ClassId) (cL : ClassId) (cZ : ClassId) (cG : ClassId) (PL : Nat) (PL_rooms : Int32) (aPL : Nat → Nat) (PL_doors : Int32) (PL_things : Int32) (FO : Nat) (PL_draw : Int32) (PL_drawTold : Int32) (aFO : Nat → Nat) (FO_size : Int32) (FO_units : Int32) (FO_told : Int32) (sz : Nat) (b_PL_rooms : zB PL_rooms 0 8) (b_PL_doors : zB PL_doors 0 12) (b_PL_things : zB PL_things 0 6) (b_FO_size : zB FO_size 0 400) : Met l yX5_clear wsX5_clear ({ frames := 1, cells := 0, slots := 0, locals := 20 }) (xp D [(cI, .int), (cB, .byte), (cL, .long), (cZ, .boolean), (cG, .array .int)] [(PL, .inr (5, oX5 FO aPL PL_rooms PL_doors PL_things PL_draw PL_drawTold)), (FO, .inr (1, oX1 aFO FO_size FO_units FO_told))] sz [] [.ref PL]) (va_Qv (fun _ : Unit => True) (fun (_ : Unit) (t : State) => ∃ (nPL_rooms : Int32), ∃ (nPL_doors : Int32), ∃ (nPL_things : Int32), ∃ (nPL_draw : Int32), ∃ (nPL_drawTold : Int32), ∃ (nFO_size : Int32), ∃ (nFO_units : Int32), ∃ (nFO_told : Int32), zB nPL_rooms 0 0 ∧ zB nPL_doors 0 0 ∧ zB nPL_things 0 0 ∧ zB nPL_draw 0 0 ∧ zB nPL_drawTold 0 0 ∧ zB nFO_size 0 0 ∧ zB nFO_units 0 0 ∧ zB nFO_told 0 0 ∧ xB D (va_A [(PL, .inr (5, oX5 FO aPL PL_rooms PL_doors PL_things PL_draw PL_drawTold)), (FO, .inr (1, oX1 aFO FO_size FO_units FO_told))] sz) [(PL, .inr (5, oX5 FO aPL nPL_rooms nPL_doors nPL_things nPL_draw nPL_drawTold)), (FO, .inr (1, oX1 aFO nFO_size nFO_units nFO_told))] t) (va_A [(PL, .inr (5, oX5 FO aPL PL_rooms PL_doors PL_things PL_draw PL_drawTold)), (FO, .inr (1, oX1 aFO FO_size FO_units FO_told))] sz)) 0 0 (va_A [(PL, .inr (5, oX5 FO aPL PL_rooms PL_doors PL_things PL_draw PL_drawTold)), (FO, .inr (1, oX1 aFO FO_size FO_units FO_told))] sz) := by
  refine Met.ofW (cc := cX5_clear) (maxL := 1) (ret := none) (by decide) rfl ?_
  intro p e s m args below meth c s₁ B hml hv
  obtain ⟨rfl, hsz, hP, hK, hD0, hNw⟩ := hv
  have hx := B.exec
  have hb := B.bytes
  have hr := B.returns
  have hts := atoms_spec (ws := wsX5_clear) B.pre
  have hown : s.vm.findClass RX5 = some m.cls := findClass_of_methodNamed B.named
  have hlocks := B.notSynchronized
  clear B
  subst hsz
  have hD := hD0.self (sz := s.heap.size)
  clear hD0 hNw
  generalize hAe : va_A [(PL, .inr (5, oX5 FO aPL PL_rooms PL_doors PL_things PL_draw PL_drawTold)), (FO, .inr (1, oX1 aFO FO_size FO_units FO_told))] s.heap.size = A at hD ⊢
  have hA : ∀ q : Nat, s.heap.size ≤ q → A q := fun q h => by rw [← hAe]; exact Or.inr h
  have hS : va_S A s.heap s.heap [] := va_S.rf
  clear hAe
  obtain ⟨H, hH⟩ : ∃ H : Heap, H = s.heap := ⟨_, rfl⟩
  obtain ⟨locs, hlocs⟩ : ∃ L : List Loc, L = [] := ⟨_, rfl⟩
  replace hP : va_P D classes [(PL, .inr (5, oX5 FO aPL PL_rooms PL_doors PL_things PL_draw PL_drawTold)), (FO, .inr (1, oX1 aFO FO_size FO_units FO_told))] H := by rw [hH]; exact hP
  replace hS : va_S A s.heap H locs := by rw [hH, hlocs]; exact hS
  rw [← hH, ← hlocs]
  clear hlocs hH
  have hl := lv_entry ([.ref PL]) (n := 1) (Nat.le_of_ble_eq_true rfl)
  rw [lg_entry_eq]
  generalize (lg_sl ([.ref PL]) ++ List.replicate (1 - (lg_sl ([.ref PL])).length) Slot.unset).toArray = ls at hl ⊢
  replace hl : lv_has ls 1 [(0, .ref PL)] := hl
  refine lv_aload_n hx hb dX5_clear_0 rfl (lv_at hl 0 rfl) ?_
  refine lv_iconst (v := 0) hx hb dX5_clear_1 (by decide) ?_
  refine va_put (D := D) (ci := 5) (v := .int 0) (ty := tyX5 0) (C := RX5) (T := TX5) (N := 16) hx hb hts iw_X5_clear_X5 tyX5 tyX5_ok nmX5 hown hK hP hD hS 0 rfl rfl 0 (by decide) (hts (.fieldLink RX5 50 "SoldHouse$Plan" "rooms" "I") (List.mem_of_getElem? (i := 1) rfl)) (fun _ h9 => h9) rfl (by decide +kernel) rfl rfl (Nat.le_of_ble_eq_true rfl) dX5_clear_2 (fun H locs hP hD hS => ?_)
  replace hP : va_P D classes [(PL, .inr (5, oX5 FO aPL 0 PL_doors PL_things PL_draw PL_drawTold)), (FO, .inr (1, oX1 aFO FO_size FO_units FO_told))] H := hP
  replace hD : va_D A [(PL, .inr (5, oX5 FO aPL 0 PL_doors PL_things PL_draw PL_drawTold)), (FO, .inr (1, oX1 aFO FO_size FO_units FO_told))] := hD
  refine lv_aload_n hx hb dX5_clear_5 rfl (lv_at hl 0 rfl) ?_
  refine lv_iconst (v := 0) hx hb dX5_clear_6 (by decide) ?_
  refine va_put (D := D) (ci := 5) (v := .int 0) (ty := tyX5 3) (C := RX5) (T := TX5) (N := 16) hx hb hts iw_X5_clear_X5 tyX5 tyX5_ok nmX5 hown hK hP hD hS 0 rfl rfl 3 (by decide) (hts (.fieldLink RX5 54 "SoldHouse$Plan" "doors" "I") (List.mem_of_getElem? (i := 2) rfl)) (fun _ h9 => h9) rfl (by decide +kernel) rfl rfl (Nat.le_of_ble_eq_true rfl) dX5_clear_7 (fun H locs hP hD hS => ?_)
  replace hP : va_P D classes [(PL, .inr (5, oX5 FO aPL 0 0 PL_things PL_draw PL_drawTold)), (FO, .inr (1, oX1 aFO FO_size FO_units FO_told))] H := hP
  replace hD : va_D A [(PL, .inr (5, oX5 FO aPL 0 0 PL_things PL_draw PL_drawTold)), (FO, .inr (1, oX1 aFO FO_size FO_units FO_told))] := hD
  refine lv_aload_n hx hb dX5_clear_10 rfl (lv_at hl 0 rfl) ?_
  refine lv_iconst (v := 0) hx hb dX5_clear_11 (by decide) ?_
  refine va_put (D := D) (ci := 5) (v := .int 0) (ty := tyX5 6) (C := RX5) (T := TX5) (N := 16) hx hb hts iw_X5_clear_X5 tyX5 tyX5_ok nmX5 hown hK hP hD hS 0 rfl rfl 6 (by decide) (hts (.fieldLink RX5 57 "SoldHouse$Plan" "things" "I") (List.mem_of_getElem? (i := 3) rfl)) (fun _ h9 => h9) rfl (by decide +kernel) rfl rfl (Nat.le_of_ble_eq_true rfl) dX5_clear_12 (fun H locs hP hD hS => ?_)
  replace hP : va_P D classes [(PL, .inr (5, oX5 FO aPL 0 0 0 PL_draw PL_drawTold)), (FO, .inr (1, oX1 aFO FO_size FO_units FO_told))] H := hP
  replace hD : va_D A [(PL, .inr (5, oX5 FO aPL 0 0 0 PL_draw PL_drawTold)), (FO, .inr (1, oX1 aFO FO_size FO_units FO_told))] := hD
  refine lv_aload_n hx hb dX5_clear_15 rfl (lv_at hl 0 rfl) ?_
  refine va_get (D := D) (ci := 5) (v := .ref FO) (C := RX5) (T := TX5) (N := 16) hx hb hts iw_X5_clear_X5 hown hK hP 0 rfl rfl 13 (by decide) (hts (.fieldLink RX5 46 "SoldHouse$Plan" "sure" "LSoldHouse$Formula;") (List.mem_of_getElem? (i := 4) rfl)) (fun _ h9 => h9) rfl dX5_clear_16 ?_
  have hPc := hP.sub (ws' := [(FO, .inr (1, oX1 aFO FO_size FO_units FO_told))]) [1] rfl
  have hDc := hD.sub (ws' := [(FO, .inr (1, oX1 aFO FO_size FO_units FO_told))]) [1] (by decide) rfl
  have hFc := va_free (wc := [(FO, .inr (1, oX1 aFO FO_size FO_units FO_told))]) hD hS hA [1] rfl
  refine va_callv (va_runV (As := []) (rest := []) ⟨hx, hb, hml, hown, hts⟩ (c_X1_clear l D cI cB cL cZ cG FO aFO FO_size FO_units FO_told H.size b_FO_size) (cwV 0 hts gX5_clear_X1_clear rfl rfl rfl (by decide +kernel) ⟨Nat.le_of_ble_eq_true rfl, Nat.le_of_ble_eq_true rfl⟩) ⟨xp_blind, va_recv hK hP (ci := 1) (q0 := 1) rfl rfl, fun U hU hW => xp_mk hU hW hPc hK hDc xNw_nil⟩ rfl rfl hl.1 rfl (lv_room (Nat.le_of_ble_eq_true rfl)) dX5_clear_19 ⟨Nat.le_of_ble_eq_true rfl, Nat.le_of_ble_eq_true rfl⟩) hS (fun q _ h => hFc q h) hFc (fun u9 t9 H1 locs ht9 hvm9 hr19 hB9 hz9 hk9 hS => ?_)
  obtain ⟨o19_nFO_size, o19_nFO_units, o19_nFO_told, bo19_nFO_size, bo19_nFO_units, bo19_nFO_told, hP1, hD1⟩ := hB9
  rw [ht9] at hP1
  obtain ⟨hP, hD⟩ := va_join (wr := [(PL, .inr (5, oX5 FO aPL 0 0 0 PL_draw PL_drawTold))]) (w1 := [(FO, .inr (1, oX1 aFO o19_nFO_size o19_nFO_units o19_nFO_told))]) hP hD [1] [0] rfl rfl (by decide) (by decide) hk9 hFc hP1 hD1
  clear hz9 hPc hDc hP1 hD1 hk9 hFc ht9 hvm9 u9 t9
  generalize H1 = H at hP hS ⊢
  replace hP : va_P D classes [(PL, .inr (5, oX5 FO aPL 0 0 0 PL_draw PL_drawTold)), (FO, .inr (1, oX1 aFO o19_nFO_size o19_nFO_units o19_nFO_told))] H := hP
  replace hD : va_D A [(PL, .inr (5, oX5 FO aPL 0 0 0 PL_draw PL_drawTold)), (FO, .inr (1, oX1 aFO o19_nFO_size o19_nFO_units o19_nFO_told))] := hD
  refine lv_aload_n hx hb dX5_clear_22 rfl (lv_at hl 0 rfl) ?_
  refine lv_iconst (v := 0) hx hb dX5_clear_23 (by decide) ?_
  refine va_put (D := D) (ci := 5) (v := .int 0) (ty := tyX5 14) (C := RX5) (T := TX5) (N := 16) hx hb hts iw_X5_clear_X5 tyX5 tyX5_ok nmX5 hown hK hP hD hS 0 rfl rfl 14 (by decide) (hts (.fieldLink RX5 63 "SoldHouse$Plan" "draw" "I") (List.mem_of_getElem? (i := 5) rfl)) (fun _ h9 => h9) rfl (by decide +kernel) rfl rfl (Nat.le_of_ble_eq_true rfl) dX5_clear_24 (fun H locs hP hD hS => ?_)
  replace hP : va_P D classes [(PL, .inr (5, oX5 FO aPL 0 0 0 0 PL_drawTold)), (FO, .inr (1, oX1 aFO o19_nFO_size o19_nFO_units o19_nFO_told))] H := hP
  replace hD : va_D A [(PL, .inr (5, oX5 FO aPL 0 0 0 0 PL_drawTold)), (FO, .inr (1, oX1 aFO o19_nFO_size o19_nFO_units o19_nFO_told))] := hD
  refine lv_aload_n hx hb dX5_clear_27 rfl (lv_at hl 0 rfl) ?_
  refine lv_iconst (v := 0) hx hb dX5_clear_28 (by decide) ?_
  refine va_put (D := D) (ci := 5) (v := .int 0) (ty := tyX5 15) (C := RX5) (T := TX5) (N := 16) hx hb hts iw_X5_clear_X5 tyX5 tyX5_ok nmX5 hown hK hP hD hS 0 rfl rfl 15 (by decide) (hts (.fieldLink RX5 66 "SoldHouse$Plan" "drawTold" "Z") (List.mem_of_getElem? (i := 6) rfl)) (fun _ h9 => h9) rfl (by decide +kernel) rfl rfl (Nat.le_of_ble_eq_true rfl) dX5_clear_29 (fun H locs hP hD hS => ?_)
  replace hP : va_P D classes [(PL, .inr (5, oX5 FO aPL 0 0 0 0 0)), (FO, .inr (1, oX1 aFO o19_nFO_size o19_nFO_units o19_nFO_told))] H := hP
  replace hD : va_D A [(PL, .inr (5, oX5 FO aPL 0 0 0 0 0)), (FO, .inr (1, oX1 aFO o19_nFO_size o19_nFO_units o19_nFO_told))] := hD
  exact W.vret hx hb hr (fun t ht hW => ⟨⟨(), rfl, trivial, ⟨0, 0, 0, 0, 0, o19_nFO_size, o19_nFO_units, o19_nFO_told, (show zB 0 0 0 from ⟨by decide, by decide⟩), (show zB 0 0 0 from ⟨by decide, by decide⟩), (show zB 0 0 0 from ⟨by decide, by decide⟩), (show zB 0 0 0 from ⟨by decide, by decide⟩), (show zB 0 0 0 from ⟨by decide, by decide⟩), bo19_nFO_size, bo19_nFO_units, bo19_nFO_told, by rw [ht]; exact hP, hD⟩⟩, hS.F ht⟩) hS.2.2 dX5_clear_32
set_option maxHeartbeats 4000000 in
set_option maxRecDepth 100000 in
theorem c_X5_roomNamed (l : Launch) (D : va_G) (cI : ClassId) (cB : ClassId) (cL : ClassId) (cZ : ClassId) (cG : ClassId) (PL : Nat) (x0 : Int64) (PL_rooms : Int32) (aPL : Nat → Nat) (PL_doors : Int32) (PL_things : Int32) (FO : Nat) (PL_draw : Int32) (PL_drawTold : Int32) (PL_roomName : Nat → Int64) (b_PL_rooms : zB PL_rooms 0 8) (b_PL_doors : zB PL_doors 0 12) (b_PL_things : zB PL_things 0 6) : Met l yX5_roomNamed wsX5_roomNamed ({ frames := 0, cells := 0, slots := 0, locals := 0 }) (xr D [(cI, .int), (cB, .byte), (cL, .long), (cZ, .boolean), (cG, .array .int)] [(PL, .inr (5, oX5 FO aPL PL_rooms PL_doors PL_things PL_draw PL_drawTold)), ((aPL 1), .inl (cL, 8, .inr (.inl PL_roomName)))] [.ref PL, .long x0]) (vp_Si (fun r => zB r (-1) 7)) 0 0 (fun _ => False) := by
  refine Met.ofW (cc := cX5_roomNamed) (maxL := 4) (ret := (some .int)) (by decide) rfl ?_
  intro p e s m args below meth c s₁ B hml hv
  obtain ⟨rfl, hP, hK⟩ := hv
  have hx := B.exec
  have hb := B.bytes
  have hr := B.returns
  have hts := atoms_spec (ws := wsX5_roomNamed) B.pre
  have hown : s.vm.findClass RX5 = some m.cls := findClass_of_methodNamed B.named
  have hlocks := B.notSynchronized
  clear B
  have hl := lv_entry ([.ref PL, .long x0]) (n := 4) (Nat.le_of_ble_eq_true rfl)
  rw [lg_entry_eq]
  generalize (lg_sl ([.ref PL, .long x0]) ++ List.replicate (4 - (lg_sl ([.ref PL, .long x0])).length) Slot.unset).toArray = ls at hl ⊢
  replace hl : lv_has ls 4 [(0, .ref PL), (1, .long x0)] := hl
  refine zz_abs (R := ({ frames := 0, cells := 0, slots := 0, locals := 0 } : Room)) (fun Q up => ?_)
  refine lv_iconst (v := 0) hx hb dX5_roomNamed_0 (by decide) ?_
  have j2 : ∀ (n2 : Nat) (ls : Array Slot) (v2_3 : Int32), zB v2_3 0 8 → (8 + 1 - v2_3.toInt) ≤ (n2 : Int) → lv_has ls 4 [(3, .int v2_3), (0, .ref PL), (1, .long x0)] → W p l e ({ frames := 0, cells := 0, slots := 0, locals := 0 } : Room) s m ([.ref PL, .long x0] : List Value).toArray below meth c s.heap [] 0 0 Q (F0 m 2 ls []) := by
    intro n2
    induction n2 with
    | zero => intro ls v2_3 bv2_3_k2 hm2 hl; exact zM_u0 bv2_3_k2 hm2
    | succ n2 ih2 =>
      intro ls v2_3 bv2_3_k2 hm2 hl
      refine lv_iload_n hx hb dX5_roomNamed_2 rfl (lv_at hl 0 rfl) ?_
      refine lv_aload_n hx hb dX5_roomNamed_3 rfl (lv_at hl 1 rfl) ?_
      refine va_get (D := D) (ci := 5) (v := .int PL_rooms) (C := RX5) (T := TX5) (N := 16) hx hb hts iw_X5_roomNamed_X5 hown hK hP 0 rfl rfl 0 (by decide) (hts (.fieldLink RX5 50 "SoldHouse$Plan" "rooms" "I") (List.mem_of_getElem? (i := 1) rfl)) (fun _ h9 => h9) rfl dX5_roomNamed_4 ?_
      refine lv_icmp_ge (tgt := 29) hx hb dX5_roomNamed_7 (by decide) (fun c7 => ?_) (fun c7 => ?_)
      · refine lv_iconst (v := (-1)) hx hb dX5_roomNamed_29 (by decide) ?_
        exact up _ _ _ (W.iret (v := (-1)) hx hb hr (fun t ht hW => ⟨(-1), rfl, (zB_w (show zB (-1) (-1) (-1) from ⟨by decide, by decide⟩) (by decide) (by decide)), ht⟩) (fun q hq => by cases hq) dX5_roomNamed_30)
      · have bx7f_v2_3 : zB v2_3 0 7 := zB_ltu (zf c7) bv2_3_k2 b_PL_rooms (by decide)
        have by7f_PL_rooms : zB PL_rooms 1 8 := zB_ltv (zf c7) bx7f_v2_3 b_PL_rooms (by decide)
        refine lv_aload_n hx hb dX5_roomNamed_10 rfl (lv_at hl 1 rfl) ?_
        refine va_get (D := D) (ci := 5) (v := .ref (aPL 1)) (C := RX5) (T := TX5) (N := 16) hx hb hts iw_X5_roomNamed_X5 hown hK hP 0 rfl rfl 1 (by decide) (hts (.fieldLink RX5 9 "SoldHouse$Plan" "roomName" "[J") (List.mem_of_getElem? (i := 2) rfl)) (fun _ h9 => h9) rfl dX5_roomNamed_11 ?_
        refine lv_iload_n hx hb dX5_roomNamed_14 rfl (lv_at hl 0 rfl) ?_
        refine va_lald hx hb hK hP 1 2 rfl rfl (zB_in bx7f_v2_3 (by decide) (by decide)) dX5_roomNamed_15 ?_
        refine lv_topl (fun y15 _ => ?_)
        refine lv_lload_n hx hb dX5_roomNamed_16 rfl (lv_at hl 2 rfl) ?_
        refine W.lcmp hx hb dX5_roomNamed_17 ?_
        refine lv_topi (fun y17 _ => ?_)
        refine lv_if_ne (tgt := 23) hx hb dX5_roomNamed_18 (by decide) (fun c18 => ?_) (fun c18 => ?_)
        · obtain ⟨y23, by23, ry23, ey23⟩ := zi_inc (x := v2_3) (k := 1) (a := 1) (b := 8) bx7f_v2_3 (by decide) (by decide) (by decide) (by decide) (by decide)
          refine lv_iinc (v := y23) (lv' := [(3, .int y23), (0, .ref PL), (1, .long x0)]) hx hb dX5_roomNamed_23 hl (k := 0) rfl ey23 (by decide) rfl (fun ls hl => ?_)
          refine lv_goto (tgt := 2) hx hb dX5_roomNamed_26 (by decide) ?_
          exact ih2 ls y23 (zB_w by23 (by decide) (by decide)) (zM_us (k := 1) hm2 ry23 (by decide)) (lv_sub hl [0, 1, 2] rfl)
        · have be18f_y17 : zB y17 0 0 := zB_eq c18 (zB_top y17) (show zB 0 0 0 from ⟨by decide, by decide⟩) (by decide) (by decide)
          refine lv_iload_n hx hb dX5_roomNamed_21 rfl (lv_at hl 0 rfl) ?_
          exact up _ _ _ (W.iret (v := v2_3) hx hb hr (fun t ht hW => ⟨v2_3, rfl, (zB_w bx7f_v2_3 (by decide) (by decide)), ht⟩) (fun q hq => by cases hq) dX5_roomNamed_22)
  refine lv_istore_n (lv' := [(3, .int 0), (0, .ref PL), (1, .long x0)]) hx hb dX5_roomNamed_1 rfl hl (by decide) rfl (fun ls hl => ?_)
  exact j2 9 ls 0 (zB_w (show zB 0 0 0 from ⟨by decide, by decide⟩) (by decide) (by decide)) (zM_ui (show zB 0 0 0 from ⟨by decide, by decide⟩) (by decide)) (lv_sub hl [0, 1, 2] rfl)
set_option maxHeartbeats 4000000 in
set_option maxRecDepth 100000 in
theorem c_X5_hasThingNamed (l : Launch) (D : va_G) (cI : ClassId) (cB : ClassId) (cL : ClassId) (cZ : ClassId) (cG : ClassId) (PL : Nat) (x0 : Int64) (PL_rooms : Int32) (aPL : Nat → Nat) (PL_doors : Int32) (PL_things : Int32) (FO : Nat) (PL_draw : Int32) (PL_drawTold : Int32) (PL_thingName : Nat → Int64) (b_PL_rooms : zB PL_rooms 0 8) (b_PL_doors : zB PL_doors 0 12) (b_PL_things : zB PL_things 0 6) : Met l yX5_hasThingNamed wsX5_hasThingNamed ({ frames := 0, cells := 0, slots := 0, locals := 0 }) (xr D [(cI, .int), (cB, .byte), (cL, .long), (cZ, .boolean), (cG, .array .int)] [(PL, .inr (5, oX5 FO aPL PL_rooms PL_doors PL_things PL_draw PL_drawTold)), ((aPL 7), .inl (cL, 6, .inr (.inl PL_thingName)))] [.ref PL, .long x0]) (vp_Si (fun r => zB r 0 1)) 0 0 (fun _ => False) := by
  refine Met.ofW (cc := cX5_hasThingNamed) (maxL := 4) (ret := (some .boolean)) (by decide) rfl ?_
  intro p e s m args below meth c s₁ B hml hv
  obtain ⟨rfl, hP, hK⟩ := hv
  have hx := B.exec
  have hb := B.bytes
  have hr := B.returns
  have hts := atoms_spec (ws := wsX5_hasThingNamed) B.pre
  have hown : s.vm.findClass RX5 = some m.cls := findClass_of_methodNamed B.named
  have hlocks := B.notSynchronized
  clear B
  have hl := lv_entry ([.ref PL, .long x0]) (n := 4) (Nat.le_of_ble_eq_true rfl)
  rw [lg_entry_eq]
  generalize (lg_sl ([.ref PL, .long x0]) ++ List.replicate (4 - (lg_sl ([.ref PL, .long x0])).length) Slot.unset).toArray = ls at hl ⊢
  replace hl : lv_has ls 4 [(0, .ref PL), (1, .long x0)] := hl
  refine zz_abs (R := ({ frames := 0, cells := 0, slots := 0, locals := 0 } : Room)) (fun Q up => ?_)
  refine lv_iconst (v := 0) hx hb dX5_hasThingNamed_0 (by decide) ?_
  have j2 : ∀ (n2 : Nat) (ls : Array Slot) (v2_3 : Int32), zB v2_3 0 6 → (6 + 1 - v2_3.toInt) ≤ (n2 : Int) → lv_has ls 4 [(3, .int v2_3), (0, .ref PL), (1, .long x0)] → W p l e ({ frames := 0, cells := 0, slots := 0, locals := 0 } : Room) s m ([.ref PL, .long x0] : List Value).toArray below meth c s.heap [] 0 0 Q (F0 m 2 ls []) := by
    intro n2
    induction n2 with
    | zero => intro ls v2_3 bv2_3_k2 hm2 hl; exact zM_u0 bv2_3_k2 hm2
    | succ n2 ih2 =>
      intro ls v2_3 bv2_3_k2 hm2 hl
      refine lv_iload_n hx hb dX5_hasThingNamed_2 rfl (lv_at hl 0 rfl) ?_
      refine lv_aload_n hx hb dX5_hasThingNamed_3 rfl (lv_at hl 1 rfl) ?_
      refine va_get (D := D) (ci := 5) (v := .int PL_things) (C := RX5) (T := TX5) (N := 16) hx hb hts iw_X5_hasThingNamed_X5 hown hK hP 0 rfl rfl 6 (by decide) (hts (.fieldLink RX5 57 "SoldHouse$Plan" "things" "I") (List.mem_of_getElem? (i := 1) rfl)) (fun _ h9 => h9) rfl dX5_hasThingNamed_4 ?_
      refine lv_icmp_ge (tgt := 29) hx hb dX5_hasThingNamed_7 (by decide) (fun c7 => ?_) (fun c7 => ?_)
      · refine lv_iconst (v := 0) hx hb dX5_hasThingNamed_29 (by decide) ?_
        exact up _ _ _ (W.zret (v := 0) (ty := .boolean) hx hb hr (by decide) (fun t ht hW => ⟨0, rfl, (zB_w (show zB 0 0 0 from ⟨by decide, by decide⟩) (by decide) (by decide)), ht⟩) (fun q hq => by cases hq) dX5_hasThingNamed_30)
      · have bx7f_v2_3 : zB v2_3 0 5 := zB_ltu (zf c7) bv2_3_k2 b_PL_things (by decide)
        have by7f_PL_things : zB PL_things 1 6 := zB_ltv (zf c7) bx7f_v2_3 b_PL_things (by decide)
        refine lv_aload_n hx hb dX5_hasThingNamed_10 rfl (lv_at hl 1 rfl) ?_
        refine va_get (D := D) (ci := 5) (v := .ref (aPL 7)) (C := RX5) (T := TX5) (N := 16) hx hb hts iw_X5_hasThingNamed_X5 hown hK hP 0 rfl rfl 7 (by decide) (hts (.fieldLink RX5 25 "SoldHouse$Plan" "thingName" "[J") (List.mem_of_getElem? (i := 2) rfl)) (fun _ h9 => h9) rfl dX5_hasThingNamed_11 ?_
        refine lv_iload_n hx hb dX5_hasThingNamed_14 rfl (lv_at hl 0 rfl) ?_
        refine va_lald hx hb hK hP 1 2 rfl rfl (zB_in bx7f_v2_3 (by decide) (by decide)) dX5_hasThingNamed_15 ?_
        refine lv_topl (fun y15 _ => ?_)
        refine lv_lload_n hx hb dX5_hasThingNamed_16 rfl (lv_at hl 2 rfl) ?_
        refine W.lcmp hx hb dX5_hasThingNamed_17 ?_
        refine lv_topi (fun y17 _ => ?_)
        refine lv_if_ne (tgt := 23) hx hb dX5_hasThingNamed_18 (by decide) (fun c18 => ?_) (fun c18 => ?_)
        · obtain ⟨y23, by23, ry23, ey23⟩ := zi_inc (x := v2_3) (k := 1) (a := 1) (b := 6) bx7f_v2_3 (by decide) (by decide) (by decide) (by decide) (by decide)
          refine lv_iinc (v := y23) (lv' := [(3, .int y23), (0, .ref PL), (1, .long x0)]) hx hb dX5_hasThingNamed_23 hl (k := 0) rfl ey23 (by decide) rfl (fun ls hl => ?_)
          refine lv_goto (tgt := 2) hx hb dX5_hasThingNamed_26 (by decide) ?_
          exact ih2 ls y23 (zB_w by23 (by decide) (by decide)) (zM_us (k := 1) hm2 ry23 (by decide)) (lv_sub hl [0, 1, 2] rfl)
        · have be18f_y17 : zB y17 0 0 := zB_eq c18 (zB_top y17) (show zB 0 0 0 from ⟨by decide, by decide⟩) (by decide) (by decide)
          refine lv_iconst (v := 1) hx hb dX5_hasThingNamed_21 (by decide) ?_
          exact up _ _ _ (W.zret (v := 1) (ty := .boolean) hx hb hr (by decide) (fun t ht hW => ⟨1, rfl, (zB_w (show zB 1 1 1 from ⟨by decide, by decide⟩) (by decide) (by decide)), ht⟩) (fun q hq => by cases hq) dX5_hasThingNamed_22)
  refine lv_istore_n (lv' := [(3, .int 0), (0, .ref PL), (1, .long x0)]) hx hb dX5_hasThingNamed_1 rfl hl (by decide) rfl (fun ls hl => ?_)
  exact j2 7 ls 0 (zB_w (show zB 0 0 0 from ⟨by decide, by decide⟩) (by decide) (by decide)) (zM_ui (show zB 0 0 0 from ⟨by decide, by decide⟩) (by decide)) (lv_sub hl [0, 1, 2] rfl)
set_option maxHeartbeats 4000000 in
set_option maxRecDepth 100000 in
theorem c_X5_behind (l : Launch) (D : va_G) (cI : ClassId) (cB : ClassId) (cL : ClassId) (cZ : ClassId) (cG : ClassId) (PL : Nat) (x0 : Int32) (x1 : Int32) (PL_rooms : Int32) (aPL : Nat → Nat) (PL_doors : Int32) (PL_things : Int32) (FO : Nat) (PL_draw : Int32) (PL_drawTold : Int32) (PL_doorFrom : Nat → Int32) (PL_doorTo : Nat → Int32) (b_x0 : zB x0 0 11) (b_PL_rooms : zB PL_rooms 0 8) (b_PL_doors : zB PL_doors 0 12) (b_PL_things : zB PL_things 0 6) (s_PL_doorFrom_0 : zA PL_doorFrom 0 12 0 7) (s_PL_doorTo_0 : zA PL_doorTo 0 12 0 7) : Met l yX5_behind wsX5_behind ({ frames := 0, cells := 0, slots := 0, locals := 0 }) (xr D [(cI, .int), (cB, .byte), (cL, .long), (cZ, .boolean), (cG, .array .int)] [(PL, .inr (5, oX5 FO aPL PL_rooms PL_doors PL_things PL_draw PL_drawTold)), ((aPL 4), .inl (cI, 12, .inl PL_doorFrom)), ((aPL 5), .inl (cI, 12, .inl PL_doorTo))] [.ref PL, .int x0, .int x1]) (vp_Si (fun r => zB r (-1) 7)) 0 0 (fun _ => False) := by
  refine Met.ofW (cc := cX5_behind) (maxL := 3) (ret := (some .int)) (by decide) rfl ?_
  intro p e s m args below meth c s₁ B hml hv
  obtain ⟨rfl, hP, hK⟩ := hv
  have hx := B.exec
  have hb := B.bytes
  have hr := B.returns
  have hts := atoms_spec (ws := wsX5_behind) B.pre
  have hown : s.vm.findClass RX5 = some m.cls := findClass_of_methodNamed B.named
  have hlocks := B.notSynchronized
  clear B
  have hl := lv_entry ([.ref PL, .int x0, .int x1]) (n := 3) (Nat.le_of_ble_eq_true rfl)
  rw [lg_entry_eq]
  generalize (lg_sl ([.ref PL, .int x0, .int x1]) ++ List.replicate (3 - (lg_sl ([.ref PL, .int x0, .int x1])).length) Slot.unset).toArray = ls at hl ⊢
  replace hl : lv_has ls 3 [(0, .ref PL), (1, .int x0), (2, .int x1)] := hl
  refine lv_aload_n hx hb dX5_behind_0 rfl (lv_at hl 0 rfl) ?_
  refine va_get (D := D) (ci := 5) (v := .ref (aPL 4)) (C := RX5) (T := TX5) (N := 16) hx hb hts iw_X5_behind_X5 hown hK hP 0 rfl rfl 4 (by decide) (hts (.fieldLink RX5 19 "SoldHouse$Plan" "doorFrom" "[I") (List.mem_of_getElem? (i := 1) rfl)) (fun _ h9 => h9) rfl dX5_behind_1 ?_
  refine lv_iload_n hx hb dX5_behind_4 rfl (lv_at hl 1 rfl) ?_
  refine va_iald hx hb hK hP 1 0 rfl rfl (zB_in b_x0 (by decide) (by decide)) dX5_behind_5 ?_
  refine zi_top (a := 0) (b := 7) (zA_at s_PL_doorFrom_0 b_x0 (by decide) (by decide)) (fun y5 by5 => ?_)
  refine lv_iload_n hx hb dX5_behind_6 rfl (lv_at hl 2 rfl) ?_
  refine lv_icmp_ne (tgt := 17) hx hb dX5_behind_7 (by decide) (fun c7 => ?_) (fun c7 => ?_)
  · refine lv_aload_n hx hb dX5_behind_17 rfl (lv_at hl 0 rfl) ?_
    refine va_get (D := D) (ci := 5) (v := .ref (aPL 5)) (C := RX5) (T := TX5) (N := 16) hx hb hts iw_X5_behind_X5 hown hK hP 0 rfl rfl 5 (by decide) (hts (.fieldLink RX5 22 "SoldHouse$Plan" "doorTo" "[I") (List.mem_of_getElem? (i := 2) rfl)) (fun _ h9 => h9) rfl dX5_behind_18 ?_
    refine lv_iload_n hx hb dX5_behind_21 rfl (lv_at hl 1 rfl) ?_
    refine va_iald hx hb hK hP 2 0 rfl rfl (zB_in b_x0 (by decide) (by decide)) dX5_behind_22 ?_
    refine zi_top (a := 0) (b := 7) (zA_at s_PL_doorTo_0 b_x0 (by decide) (by decide)) (fun y22 by22 => ?_)
    refine lv_iload_n hx hb dX5_behind_23 rfl (lv_at hl 2 rfl) ?_
    refine lv_icmp_ne (tgt := 36) hx hb dX5_behind_24 (by decide) (fun c24 => ?_) (fun c24 => ?_)
    · refine lv_iconst (v := (-1)) hx hb dX5_behind_36 (by decide) ?_
      exact W.iret (v := (-1)) hx hb hr (fun t ht hW => ⟨(-1), rfl, (zB_w (show zB (-1) (-1) (-1) from ⟨by decide, by decide⟩) (by decide) (by decide)), ht⟩) (fun q hq => by cases hq) dX5_behind_37
    · have be24f_x1 : zB x1 0 7 := zB_eq (Eq.symm c24) (zB_top x1) by22 (by decide) (by decide)
      refine lv_aload_n hx hb dX5_behind_27 rfl (lv_at hl 0 rfl) ?_
      refine va_get (D := D) (ci := 5) (v := .ref (aPL 4)) (C := RX5) (T := TX5) (N := 16) hx hb hts iw_X5_behind_X5 hown hK hP 0 rfl rfl 4 (by decide) (hts (.fieldLink RX5 19 "SoldHouse$Plan" "doorFrom" "[I") (List.mem_of_getElem? (i := 1) rfl)) (fun _ h9 => h9) rfl dX5_behind_28 ?_
      refine lv_iload_n hx hb dX5_behind_31 rfl (lv_at hl 1 rfl) ?_
      refine va_iald hx hb hK hP 1 0 rfl rfl (zB_in b_x0 (by decide) (by decide)) dX5_behind_32 ?_
      refine zi_top (a := 0) (b := 7) (zA_at s_PL_doorFrom_0 b_x0 (by decide) (by decide)) (fun y32 by32 => ?_)
      refine lv_goto (tgt := 37) hx hb dX5_behind_33 (by decide) ?_
      exact W.iret (v := y32) hx hb hr (fun t ht hW => ⟨y32, rfl, (zB_w by32 (by decide) (by decide)), ht⟩) (fun q hq => by cases hq) dX5_behind_37
  · have be7f_x1 : zB x1 0 7 := zB_eq (Eq.symm c7) (zB_top x1) by5 (by decide) (by decide)
    refine lv_aload_n hx hb dX5_behind_10 rfl (lv_at hl 0 rfl) ?_
    refine va_get (D := D) (ci := 5) (v := .ref (aPL 5)) (C := RX5) (T := TX5) (N := 16) hx hb hts iw_X5_behind_X5 hown hK hP 0 rfl rfl 5 (by decide) (hts (.fieldLink RX5 22 "SoldHouse$Plan" "doorTo" "[I") (List.mem_of_getElem? (i := 2) rfl)) (fun _ h9 => h9) rfl dX5_behind_11 ?_
    refine lv_iload_n hx hb dX5_behind_14 rfl (lv_at hl 1 rfl) ?_
    refine va_iald hx hb hK hP 2 0 rfl rfl (zB_in b_x0 (by decide) (by decide)) dX5_behind_15 ?_
    refine zi_top (a := 0) (b := 7) (zA_at s_PL_doorTo_0 b_x0 (by decide) (by decide)) (fun y15 by15 => ?_)
    exact W.iret (v := y15) hx hb hr (fun t ht hW => ⟨y15, rfl, (zB_w by15 (by decide) (by decide)), ht⟩) (fun q hq => by cases hq) dX5_behind_16
set_option maxHeartbeats 4000000 in
set_option maxRecDepth 100000 in
theorem c_X5_hasDoorOf (l : Launch) (D : va_G) (cI : ClassId) (cB : ClassId) (cL : ClassId) (cZ : ClassId) (cG : ClassId) (PL : Nat) (x0 : Int32) (x1 : Int32) (PL_rooms : Int32) (aPL : Nat → Nat) (PL_doors : Int32) (PL_things : Int32) (FO : Nat) (PL_draw : Int32) (PL_drawTold : Int32) (PL_doorFrom : Nat → Int32) (PL_doorTo : Nat → Int32) (b_PL_rooms : zB PL_rooms 0 8) (b_PL_doors : zB PL_doors 0 12) (b_PL_things : zB PL_things 0 6) (s_PL_doorFrom_0 : zA PL_doorFrom 0 12 0 7) (s_PL_doorTo_0 : zA PL_doorTo 0 12 0 7) : Met l yX5_hasDoorOf wsX5_hasDoorOf ({ frames := 1, cells := 0, slots := 0, locals := 22 }) (xr D [(cI, .int), (cB, .byte), (cL, .long), (cZ, .boolean), (cG, .array .int)] [(PL, .inr (5, oX5 FO aPL PL_rooms PL_doors PL_things PL_draw PL_drawTold)), ((aPL 4), .inl (cI, 12, .inl PL_doorFrom)), ((aPL 5), .inl (cI, 12, .inl PL_doorTo))] [.ref PL, .int x0, .int x1]) (vp_Si (fun r => (r = 0) ∨ (r = 1 ∧ zB x1 (-1) 7))) 0 0 (fun _ => False) := by
  refine Met.ofW (cc := cX5_hasDoorOf) (maxL := 4) (ret := (some .boolean)) (by decide) rfl ?_
  intro p e s m args below meth c s₁ B hml hv
  obtain ⟨rfl, hP, hK⟩ := hv
  have hx := B.exec
  have hb := B.bytes
  have hr := B.returns
  have hts := atoms_spec (ws := wsX5_hasDoorOf) B.pre
  have hown : s.vm.findClass RX5 = some m.cls := findClass_of_methodNamed B.named
  have hlocks := B.notSynchronized
  clear B
  have hl := lv_entry ([.ref PL, .int x0, .int x1]) (n := 4) (Nat.le_of_ble_eq_true rfl)
  rw [lg_entry_eq]
  generalize (lg_sl ([.ref PL, .int x0, .int x1]) ++ List.replicate (4 - (lg_sl ([.ref PL, .int x0, .int x1])).length) Slot.unset).toArray = ls at hl ⊢
  replace hl : lv_has ls 4 [(0, .ref PL), (1, .int x0), (2, .int x1)] := hl
  refine zz_abs (R := ({ frames := 1, cells := 0, slots := 0, locals := 22 } : Room)) (fun Q up => ?_)
  refine lv_iconst (v := 0) hx hb dX5_hasDoorOf_0 (by decide) ?_
  have j2 : ∀ (n2 : Nat) (ls : Array Slot) (v2_3 : Int32), zB v2_3 0 12 → zA PL_doorFrom 0 12 0 7 → zA PL_doorTo 0 12 0 7 → (12 + 1 - v2_3.toInt) ≤ (n2 : Int) → lv_has ls 4 [(3, .int v2_3), (0, .ref PL), (1, .int x0), (2, .int x1)] → W p l e ({ frames := 1, cells := 0, slots := 0, locals := 22 } : Room) s m ([.ref PL, .int x0, .int x1] : List Value).toArray below meth c s.heap [] 0 0 Q (F0 m 2 ls []) := by
    intro n2
    induction n2 with
    | zero => intro ls v2_3 bv2_3_k2 sPL_doorFrom_0_k2 sPL_doorTo_0_k2 hm2 hl; exact zM_u0 bv2_3_k2 hm2
    | succ n2 ih2 =>
      intro ls v2_3 bv2_3_k2 sPL_doorFrom_0_k2 sPL_doorTo_0_k2 hm2 hl
      refine lv_iload_n hx hb dX5_hasDoorOf_2 rfl (lv_at hl 0 rfl) ?_
      refine lv_aload_n hx hb dX5_hasDoorOf_3 rfl (lv_at hl 1 rfl) ?_
      refine va_get (D := D) (ci := 5) (v := .int PL_doors) (C := RX5) (T := TX5) (N := 16) hx hb hts iw_X5_hasDoorOf_X5 hown hK hP 0 rfl rfl 3 (by decide) (hts (.fieldLink RX5 54 "SoldHouse$Plan" "doors" "I") (List.mem_of_getElem? (i := 1) rfl)) (fun _ h9 => h9) rfl dX5_hasDoorOf_4 ?_
      refine lv_icmp_ge (tgt := 28) hx hb dX5_hasDoorOf_7 (by decide) (fun c7 => ?_) (fun c7 => ?_)
      · refine lv_iconst (v := 0) hx hb dX5_hasDoorOf_28 (by decide) ?_
        exact up _ _ _ (W.zret (v := 0) (ty := .boolean) hx hb hr (by decide) (fun t ht hW => ⟨0, rfl, Or.inl rfl, ht⟩) (fun q hq => by cases hq) dX5_hasDoorOf_29)
      · have bx7f_v2_3 : zB v2_3 0 11 := zB_ltu (zf c7) bv2_3_k2 b_PL_doors (by decide)
        have by7f_PL_doors : zB PL_doors 1 12 := zB_ltv (zf c7) bx7f_v2_3 b_PL_doors (by decide)
        refine lv_aload_n hx hb dX5_hasDoorOf_10 rfl (lv_at hl 1 rfl) ?_
        refine lv_iload_n hx hb dX5_hasDoorOf_11 rfl (lv_at hl 0 rfl) ?_
        refine lv_iload_n hx hb dX5_hasDoorOf_12 rfl (lv_at hl 2 rfl) ?_
        have hPc := hP.sub (ws' := [(PL, .inr (5, oX5 FO aPL PL_rooms PL_doors PL_things PL_draw PL_drawTold)), ((aPL 4), .inl (cI, 12, .inl PL_doorFrom)), ((aPL 5), .inl (cI, 12, .inl PL_doorTo))]) [0, 1, 2] rfl
        refine vp_callSi (va_runV (As := [.int v2_3, .int x0]) (rest := []) ⟨hx, hb, hml, hown, hts⟩ (c_X5_behind l D cI cB cL cZ cG PL v2_3 x0 PL_rooms aPL PL_doors PL_things FO PL_draw PL_drawTold PL_doorFrom PL_doorTo bx7f_v2_3 b_PL_rooms (zB_w by7f_PL_doors (by decide) (by decide)) b_PL_things sPL_doorFrom_0_k2 sPL_doorTo_0_k2) (cwV 2 hts gX5_hasDoorOf_X5_behind rfl rfl rfl (by decide +kernel) ⟨Nat.le_of_ble_eq_true rfl, Nat.le_of_ble_eq_true rfl⟩) ⟨xr_blind, va_recv hK hP (ci := 5) (q0 := 0) rfl rfl, fun U hU hW => xr_mk hU hW hPc hK⟩ rfl rfl hl.1 rfl (lv_room (Nat.le_of_ble_eq_true rfl)) dX5_hasDoorOf_13 ⟨Nat.le_of_ble_eq_true rfl, Nat.le_of_ble_eq_true rfl⟩).run (fun r13 hr13 => ?_)
        clear hPc
        refine lv_iload_n hx hb dX5_hasDoorOf_16 rfl (lv_at hl 3 rfl) ?_
        refine lv_icmp_ne (tgt := 22) hx hb dX5_hasDoorOf_17 (by decide) (fun c17 => ?_) (fun c17 => ?_)
        · obtain ⟨y22, by22, ry22, ey22⟩ := zi_inc (x := v2_3) (k := 1) (a := 1) (b := 12) bx7f_v2_3 (by decide) (by decide) (by decide) (by decide) (by decide)
          refine lv_iinc (v := y22) (lv' := [(3, .int y22), (0, .ref PL), (1, .int x0), (2, .int x1)]) hx hb dX5_hasDoorOf_22 hl (k := 0) rfl ey22 (by decide) rfl (fun ls hl => ?_)
          refine lv_goto (tgt := 2) hx hb dX5_hasDoorOf_25 (by decide) ?_
          exact ih2 ls y22 (zB_w by22 (by decide) (by decide)) sPL_doorFrom_0_k2 sPL_doorTo_0_k2 (zM_us (k := 1) hm2 ry22 (by decide)) (lv_sub hl [0, 1, 2, 3] rfl)
        · have be17f_x1 : zB x1 (-1) 7 := zB_eq (Eq.symm c17) (zB_top x1) hr13 (by decide) (by decide)
          refine lv_iconst (v := 1) hx hb dX5_hasDoorOf_20 (by decide) ?_
          exact up _ _ _ (W.zret (v := 1) (ty := .boolean) hx hb hr (by decide) (fun t ht hW => ⟨1, rfl, Or.inr (⟨rfl, be17f_x1⟩), ht⟩) (fun q hq => by cases hq) dX5_hasDoorOf_21)
  refine lv_istore_n (lv' := [(3, .int 0), (0, .ref PL), (1, .int x0), (2, .int x1)]) hx hb dX5_hasDoorOf_1 rfl hl (by decide) rfl (fun ls hl => ?_)
  exact j2 13 ls 0 (zB_w (show zB 0 0 0 from ⟨by decide, by decide⟩) (by decide) (by decide)) s_PL_doorFrom_0 s_PL_doorTo_0 (zM_ui (show zB 0 0 0 from ⟨by decide, by decide⟩) (by decide)) (lv_sub hl [0, 1, 2, 3] rfl)
