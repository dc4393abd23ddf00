set_option maxHeartbeats 4000000 in
set_option maxRecDepth 100000 in
theorem s_charAt (l : Launch) (aS : Nat) (vS : Nat) (fo : Option Nat) (k : Nat) (hk : k < 77) : Met l yJ0_charAt_5068e wsJ0_charAt_5068e ({ frames := 3, cells := 0, slots := 0, locals := 64 }) (xq aS vS fo [.ref aS, .int (nI k)]) (vp_Si (fun r => narrow .char (.int r) = .int r)) 0 0 (fun _ => False) := by
  refine Met.ofW (cc := cJ0_charAt_5068e) (maxL := 2) (ret := (some .char)) (by decide) rfl ?_
  intro p e s m args below meth c s₁ B hml hv
  obtain ⟨rfl, hStr⟩ := hv
  have hS : va_S (fun _ : Nat => False) s.heap s.heap [] := va_S.rf
  have hx := B.exec
  have hb := B.bytes
  have hr := B.returns
  have hts := atoms_spec (ws := wsJ0_charAt_5068e) B.pre
  have hown : s.vm.findClass RJ0 = some m.cls := findClass_of_methodNamed B.named
  have hlocks := B.notSynchronized
  have hl := lv_entry ([.ref aS, .int (nI k)]) (n := 2) (Nat.le_of_ble_eq_true rfl)
  rw [lg_entry_eq]
  generalize (lg_sl ([.ref aS, .int (nI k)]) ++ List.replicate (2 - (lg_sl ([.ref aS, .int (nI k)])).length) Slot.unset).toArray = ls at hl ⊢
  replace hl : lv_has ls 2 [(0, .ref aS), (1, .int (nI k))] := hl
  refine lv_aload_n hx hb dJ0_charAt_5068e_0 rfl (lv_at hl 0 rfl) ?_
  refine vp_callSi (va_runV (As := []) (rest := []) ⟨hx, hb, hml, hown, hts⟩ (s_isLatin1 l aS vS fo) (cwV 0 hts gJ0_charAt_5068e_J0_isLatin1_aae02 rfl rfl rfl (by decide +kernel) ⟨Nat.le_of_ble_eq_true rfl, Nat.le_of_ble_eq_true rfl⟩) ⟨xq_blind, xS.recv hStr hS, fun U hU hW => xq_mk hU hW hStr hS⟩ rfl rfl hl.1 rfl (lv_room (Nat.le_of_ble_eq_true rfl)) dJ0_charAt_5068e_1 ⟨Nat.le_of_ble_eq_true rfl, Nat.le_of_ble_eq_true rfl⟩).run (fun r_1 hr_1 => ?_)
  subst hr_1
  refine lv_if_eq (tgt := 16) hx hb dJ0_charAt_5068e_4 (by decide) (fun c_2 => absurd c_2 (by decide)) (fun _ => ?_)
  refine lv_aload_n hx hb dJ0_charAt_5068e_7 rfl (lv_at hl 0 rfl) ?_
  refine vk_getf (v := .ref vS) hx hb hStr.2.2.2.1 hS hown (hts (.fieldLink RJ0 9 "java/lang/String" "value" "[B") (List.mem_of_getElem? (i := 1) rfl)) (fun _ h => h) dJ0_charAt_5068e_8 ?_
  refine lv_iload_n hx hb dJ0_charAt_5068e_11 rfl (lv_at hl 1 rfl) ?_
  refine vp_callSi (va_runS (As := [.ref vS, .int (nI k)]) (rest := []) ⟨hx, hb, hml, hown, hts⟩ (s_lat l aS vS fo k (by omega)) (va_cwS 2 hts gJ0_charAt_5068e_J1_charAt_3b067 rfl rfl rfl (by decide +kernel) ⟨Nat.le_of_ble_eq_true rfl, Nat.le_of_ble_eq_true rfl⟩) ⟨xq_blind, fun U hU hW => xq_mk hU hW hStr hS⟩ rfl rfl hl.1 rfl (lv_room (Nat.le_of_ble_eq_true rfl)) dJ0_charAt_5068e_12 ⟨Nat.le_of_ble_eq_true rfl, Nat.le_of_ble_eq_true rfl⟩).run (fun r_3 hr_3 => ?_)
  have hnc := hr_3
  clear hr_3
  exact W.zret (v := r_3) (ty := .char) hx hb hr hnc (fun t ht hW => ⟨r_3, rfl, hnc, ht⟩) (fun q hq => by cases hq) dJ0_charAt_5068e_15
set_option maxHeartbeats 4000000 in
set_option maxRecDepth 100000 in
theorem i_withLetter (l : Launch) (D : va_G) (cI : ClassId) (cB : ClassId) (cL : ClassId) (cZ : ClassId) (x : Int64) (y : Int32) : Met l yX9_withLetter wsX9_withLetter ({ frames := 0, cells := 0, slots := 0, locals := 0 }) (xr D [(cI, .int), (cB, .byte), (cL, .long), (cZ, .boolean)] [] [.long x, .int y]) (vp_Sl (fun r => True)) 0 0 (fun _ => False) := by
  refine Met.ofW (cc := cX9_withLetter) (maxL := 3) (ret := (some .long)) (by decide) rfl ?_
  intro p e s m args below meth c s₁ B hml hv
  obtain ⟨rfl, hP, hK⟩ := hv
  have hx := B.exec
  have hb := B.bytes
  have hr := B.returns
  have hts := atoms_spec (ws := wsX9_withLetter) B.pre
  have hown : s.vm.findClass RX9 = some m.cls := findClass_of_methodNamed B.named
  have hlocks := B.notSynchronized
  have hl := lv_entry ([.long x, .int y]) (n := 3) (Nat.le_of_ble_eq_true rfl)
  rw [lg_entry_eq]
  generalize (lg_sl ([.long x, .int y]) ++ List.replicate (3 - (lg_sl ([.long x, .int y])).length) Slot.unset).toArray = ls at hl ⊢
  replace hl : lv_has ls 3 [(0, .long x), (2, .int y)] := hl
  refine lv_lload_n hx hb dX9_withLetter_0 rfl (lv_at hl 0 rfl) ?_
  refine lv_ldc2 hx hb hown (hts (.constantLong RX9 92 (32)) (List.mem_of_getElem? (i := 1) rfl)) dX9_withLetter_1 ?_
  refine lv_lmul hx hb dX9_withLetter_4 ?_
  refine lv_topl (fun y_1 ey_1 => ?_)
  refine lv_iload_n hx hb dX9_withLetter_5 rfl (lv_at hl 1 rfl) ?_
  refine lv_bipush (v := 97) hx hb dX9_withLetter_6 (by decide) ?_
  refine lv_isub hx hb dX9_withLetter_8 ?_
  refine lv_topi (fun y_2 ey_2 => ?_)
  refine lv_iconst (v := 1) hx hb dX9_withLetter_9 (by decide) ?_
  refine lv_iadd hx hb dX9_withLetter_10 ?_
  refine lv_topi (fun y_3 ey_3 => ?_)
  refine lv_i2l hx hb dX9_withLetter_11 rfl ?_
  refine lv_topl (fun y_4 ey_4 => ?_)
  refine lv_ladd hx hb dX9_withLetter_12 ?_
  refine lv_topl (fun y_5 ey_5 => ?_)
  exact W.lret (v := y_5) hx hb hr (fun t ht hW => ⟨y_5, rfl, trivial, ht⟩) (fun q hq => by cases hq) dX9_withLetter_13
set_option maxHeartbeats 4000000 in
set_option maxRecDepth 100000 in
theorem i_Tokens (l : Launch) (aS : Nat) (vS : Nat) (fo : Option Nat) (D : va_G) (cI : ClassId) (cB : ClassId) (cL : ClassId) (cZ : ClassId) (a0 : Nat) (aT : Nat) (sz : Nat) : Met l yX9_init wsX9_init ({ frames := 4, cells := 1, slots := 17, locals := 85 }) (xpS D [(cI, .int), (cB, .byte), (cL, .long), (cZ, .boolean)] [(a0, .inr (9, [.null, .null, .int 0, .int 0, .int 0, .long 0, .int 0]))] sz [] aS vS fo [.ref a0, .ref aT]) (va_Qv (fun _ : Unit => True) (fun (_ : Unit) (t : State) => ∃ (to : Nat), xB D (va_A [(a0, .inr (9, [.null, .null, .int 0, .int 0, .int 0, .long 0, .int 0]))] sz) [(a0, .inr (9, [.ref aT, .ref to, .int 0, .int 0, .int 0, .long 0, .int 0]))] t) (va_A [(a0, .inr (9, [.null, .null, .int 0, .int 0, .int 0, .long 0, .int 0]))] sz)) 1 17 (va_A [(a0, .inr (9, [.null, .null, .int 0, .int 0, .int 0, .long 0, .int 0]))] sz) := by
  refine Met.ofW (cc := cX9_init) (maxL := 6) (ret := none) (by decide) rfl ?_
  intro p e s m args below meth c s₁ B hml hv
  obtain ⟨rfl, hsz, hP, hK, hD0, hNw, hAO, hStr⟩ := hv
  have hx := B.exec
  have hb := B.bytes
  have hr := B.returns
  have hts := atoms_spec (ws := wsX9_init) B.pre
  have hown : s.vm.findClass RX9 = some m.cls := findClass_of_methodNamed B.named
  have hlocks := B.notSynchronized
  have hin : meth.name = "<init>" := (name_of_methodNamed B.named B.method).1
  subst hsz
  have hD := hD0.self (sz := s.heap.size)
  clear hD0
  generalize hAe : va_A [(a0, .inr (9, [.null, .null, .int 0, .int 0, .int 0, .long 0, .int 0]))] s.heap.size = A at hD hStr ⊢
  have hA : ∀ q : Nat, s.heap.size ≤ q → A q := fun q h => by rw [← hAe]; exact Or.inr h
  have hS : va_S A s.heap s.heap [] := va_S.rf
  clear hAe
  obtain ⟨H, hH⟩ : ∃ H : Heap, H = s.heap := ⟨_, rfl⟩
  obtain ⟨locs, hlocs⟩ : ∃ L : List Loc, L = [] := ⟨_, rfl⟩
  replace hP : va_P D classes [(a0, .inr (9, [.null, .null, .int 0, .int 0, .int 0, .long 0, .int 0]))] H := by rw [hH]; exact hP
  replace hS : va_S A s.heap H locs := by rw [hH, hlocs]; exact hS
  rw [← hH, ← hlocs]
  clear hlocs hH
  have hl := lv_entry ([.ref a0, .ref aT]) (n := 6) (Nat.le_of_ble_eq_true rfl)
  rw [lg_entry_eq]
  generalize (lg_sl ([.ref a0, .ref aT]) ++ List.replicate (6 - (lg_sl ([.ref a0, .ref aT])).length) Slot.unset).toArray = ls at hl ⊢
  replace hl : lv_has ls 6 [(0, .ref a0), (1, .ref aT)] := hl
  refine lv_aload_n hx hb dX9_init_0 rfl (lv_at hl 0 rfl) ?_
  refine W.objInit hx hb hown (hts (.methodLink RX9 3 objectInit) (List.mem_of_getElem? (i := 1) rfl)) (hts (.instanceMethod objectInit) (List.mem_of_getElem? (i := 2) rfl)) (hts (.code objectInit ⟨#[0xb1]⟩ 1 none) (List.mem_of_getElem? (i := 3) rfl)) rfl (by rw [hml]; exact hl.1) rfl dX9_init_1 (Nat.le_of_ble_eq_true rfl) (Nat.le_of_ble_eq_true rfl) ?_
  refine W.eq (g2 := F0 m 4 ls []) rfl ?_
  refine lv_aload_n hx hb dX9_init_4 rfl (lv_at hl 0 rfl) ?_
  refine lv_bipush (v := 17) hx hb dX9_init_5 (by decide) ?_
  refine zz_newC (atype := .long) (a0 := (17, .inr (.inl (fun _ => 0)))) (N' := 17) hx hb (hts (.arrayClass .long) (List.mem_of_getElem? (i := 4) rfl)) rfl hK hP hD hS hA (fun _ => rfl) (by decide) (by decide) (Nat.le_of_ble_eq_true rfl) (Nat.le_of_ble_eq_true rfl) (Nat.le_of_ble_eq_true rfl) dX9_init_7 2 rfl (fun _ h9 => h9) (fun q_1 H hP hD hS => ?_)
  replace hP : va_P D classes [(a0, .inr (9, [.null, .null, .int 0, .int 0, .int 0, .long 0, .int 0])), (q_1, .inl (cL, 17, .inr (.inl (fun _ => 0))))] H := hP
  replace hD : va_D A [(a0, .inr (9, [.null, .null, .int 0, .int 0, .int 0, .long 0, .int 0])), (q_1, .inl (cL, 17, .inr (.inl (fun _ => 0))))] := hD
  refine va_putF (D := D) (ci := 9) (v := .ref q_1) (ty := tyX9 1) (C := RX9) (T := TX9) (N := 7) hx hb hts iw_X9_init_X9 tyX9 tyX9_ok nmX9 hown hK hP hD hS 0 rfl rfl 1 (by decide) (hts (.fieldLink RX9 11 "SoldHouse$Tokens" "own" "[J") (List.mem_of_getElem? (i := 5) rfl)) (fun _ h9 => h9) rfl hin rfl (by decide +kernel) rfl rfl (Nat.le_of_ble_eq_true rfl) dX9_init_9 (fun H locs hP hD hS => ?_)
  replace hP : va_P D classes [(a0, .inr (9, [.null, .ref q_1, .int 0, .int 0, .int 0, .long 0, .int 0])), (q_1, .inl (cL, 17, .inr (.inl (fun _ => 0))))] H := hP
  replace hD : va_D A [(a0, .inr (9, [.null, .ref q_1, .int 0, .int 0, .int 0, .long 0, .int 0])), (q_1, .inl (cL, 17, .inr (.inl (fun _ => 0))))] := hD
  refine lv_aload_n hx hb dX9_init_12 rfl (lv_at hl 0 rfl) ?_
  refine lv_aload_n hx hb dX9_init_13 rfl (lv_at hl 1 rfl) ?_
  refine va_putF (D := D) (ci := 9) (v := .ref aT) (ty := tyX9 0) (C := RX9) (T := TX9) (N := 7) hx hb hts iw_X9_init_X9 tyX9 tyX9_ok nmX9 hown hK hP hD hS 0 rfl rfl 0 (by decide) (hts (.fieldLink RX9 15 "SoldHouse$Tokens" "tape" "LSoldHouse$Tape;") (List.mem_of_getElem? (i := 6) rfl)) (fun _ h9 => h9) rfl hin rfl (by decide +kernel) rfl rfl (Nat.le_of_ble_eq_true rfl) dX9_init_14 (fun H locs hP hD hS => ?_)
  replace hP : va_P D classes [(a0, .inr (9, [.ref aT, .ref q_1, .int 0, .int 0, .int 0, .long 0, .int 0])), (q_1, .inl (cL, 17, .inr (.inl (fun _ => 0))))] H := hP
  replace hD : va_D A [(a0, .inr (9, [.ref aT, .ref q_1, .int 0, .int 0, .int 0, .long 0, .int 0])), (q_1, .inl (cL, 17, .inr (.inl (fun _ => 0))))] := hD
  refine lv_iconst (v := 0) hx hb dX9_init_17 (by decide) ?_
  refine lv_istore_n (lv' := [(2, .int 0), (0, .ref a0), (1, .ref aT)]) hx hb dX9_init_18 rfl hl (by decide) rfl (fun ls hl => ?_)
  refine lv_lconst (v := 0) hx hb dX9_init_19 (by decide) ?_
  refine lv_lstore_n (lv' := [(3, .long 0), (2, .int 0), (0, .ref a0), (1, .ref aT)]) hx hb dX9_init_20 rfl hl (by decide) rfl (fun ls hl => ?_)
  refine lv_iconst (v := 0) hx hb dX9_init_21 (by decide) ?_
  refine lv_istore (lv' := [(5, .int 0), (3, .long 0), (2, .int 0), (0, .ref a0), (1, .ref aT)]) hx hb dX9_init_22 hl (by decide) rfl (fun ls hl => ?_)
  obtain ⟨i24, hi24⟩ : ∃ i : Nat, i = 0 := ⟨0, rfl⟩
  obtain ⟨k24_2, hk24_2⟩ : ∃ z : Nat, z = 0 := ⟨0, rfl⟩
  have hb_k24_2 : k24_2 ≤ 17 := by omega
  obtain ⟨z24_3, hz24_3⟩ : ∃ z : Int64, z = 0 := ⟨_, rfl⟩
  replace hl : lv_has ls 6 [(5, .int (nI i24)), (3, .long z24_3), (2, .int (nI k24_2)), (0, .ref a0), (1, .ref aT)] := by
    rw [hk24_2]; rw [hz24_3]; rw [hi24]; exact hl
  obtain ⟨g_2, eg_2⟩ : ∃ g : Nat → Int64, g = (fun _ => 0) := ⟨_, rfl⟩
  rw [← eg_2] at hP hD
  clear eg_2
  have hle_i24 : i24 ≤ 77 := by omega
  obtain ⟨n24, hnn24⟩ : ∃ n : Nat, 77 + 1 ≤ i24 + n := ⟨77 + 1, by omega⟩
  clear hi24 hk24_2 hz24_3
  induction n24 generalizing i24 H locs ls k24_2 z24_3 g_2 with
  | zero => omega
  | succ n24 ih24 =>
    refine lv_iload hx hb dX9_init_24 (lv_at hl 0 rfl) ?_
    refine va_ldcS hx hb hown hStr.1 dX9_init_26 ?_
    refine vp_callSi (va_runV (As := []) (rest := [.int (nI i24)]) ⟨hx, hb, hml, hown, hts⟩ (s_length l aS vS fo) (cwV 0 hts gX9_init_J0_length_8abf5 rfl rfl rfl (by decide +kernel) ⟨Nat.le_of_ble_eq_true rfl, Nat.le_of_ble_eq_true rfl⟩) ⟨xq_blind, xS.recv hStr hS, fun U hU hW => xq_mk hU hW hStr hS⟩ rfl rfl hl.1 rfl (lv_room (Nat.le_of_ble_eq_true rfl)) dX9_init_28 ⟨Nat.le_of_ble_eq_true rfl, Nat.le_of_ble_eq_true rfl⟩).run (fun r_3 hr_3 => ?_)
    subst hr_3
    refine lv_icmp_ge (tgt := 85) hx hb dX9_init_31 (by decide) (fun c_4 => ?_) (fun c_4 => ?_)
    · have hP9 := hP.sub (ws' := [(a0, .inr (9, [.ref aT, .ref q_1, .int 0, .int 0, .int 0, .long 0, .int 0]))]) [0] rfl
      have hD9 := hD.sub (ws' := [(a0, .inr (9, [.ref aT, .ref q_1, .int 0, .int 0, .int 0, .long 0, .int 0]))]) [0] (by decide) rfl
      refine W.widen (k := 1) (n := 17) (Nat.le_of_ble_eq_true rfl) (Nat.le_of_ble_eq_true rfl) ?_
      exact W.vret hx hb hr (fun t ht hW => ⟨⟨(), rfl, trivial, ⟨q_1, by rw [ht]; exact hP9, hD9⟩⟩, hS.F ht⟩) hS.2.2 dX9_init_85
    · have hlt_i24 : i24 < 77 := by
        rcases Nat.lt_or_ge i24 77 with q | q
        · exact q
        · exact absurd (nI_le q (by omega)) c_4
      refine va_ldcS hx hb hown hStr.1 dX9_init_34 ?_
      refine lv_iload hx hb dX9_init_36 (lv_at hl 0 rfl) ?_
      refine vp_callSi (va_runV (As := [.int (nI i24)]) (rest := []) ⟨hx, hb, hml, hown, hts⟩ (s_charAt l aS vS fo i24 (by omega)) (cwV 1 hts gX9_init_J0_charAt_5068e rfl rfl rfl (by decide +kernel) ⟨Nat.le_of_ble_eq_true rfl, Nat.le_of_ble_eq_true rfl⟩) ⟨xq_blind, xS.recv hStr hS, fun U hU hW => xq_mk hU hW hStr hS⟩ rfl rfl hl.1 rfl (lv_room (Nat.le_of_ble_eq_true rfl)) dX9_init_38 ⟨Nat.le_of_ble_eq_true rfl, Nat.le_of_ble_eq_true rfl⟩).run (fun r_5 hr_5 => ?_)
      have hnc := hr_5
      clear hr_5
      refine lv_bipush (v := 32) hx hb dX9_init_41 (by decide) ?_
      refine lv_icmp_eq (tgt := 61) hx hb dX9_init_43 (by decide) (fun c_6 => ?_) (fun c_6 => ?_)
      · obtain rfl : r_5 = 32 := c_6
        refine lv_iload_n hx hb dX9_init_61 rfl (lv_at hl 2 rfl) ?_
        refine lv_bipush (v := 17) hx hb dX9_init_62 (by decide) ?_
        refine lv_icmp_ge (tgt := 79) hx hb dX9_init_64 (by decide) (fun c_7 => ?_) (fun c_7 => ?_)
        · refine lv_iinc (v := nI (i24 + 1)) (lv' := [(5, .int (nI (i24 + 1))), (3, .long z24_3), (2, .int (nI k24_2)), (0, .ref a0), (1, .ref aT)]) hx hb dX9_init_79 hl (k := 0) rfl (nI_1 i24) (by decide) rfl (fun ls hl => ?_)
          refine lv_goto (tgt := 24) hx hb dX9_init_82 (by decide) ?_
          replace hl : lv_has ls 6 [(5, .int (nI (i24 + 1))), (3, .long z24_3), (2, .int (nI k24_2)), (0, .ref a0), (1, .ref aT)] := lv_sub hl [0, 1, 2, 3, 4] rfl
          apply ih24 (i24 := (i24 + 1)) (H := H) (locs := locs) (ls := ls) (k24_2 := (k24_2)) (z24_3 := (z24_3)) (g_2 := (g_2)) <;> first | assumption | omega
        · have hlt_k24_2 : k24_2 < 17 := by
            rcases Nat.lt_or_ge k24_2 17 with q | q
            · exact q
            · exact absurd (nI_le q (by omega)) c_7
          refine lv_aload_n hx hb dX9_init_67 rfl (lv_at hl 3 rfl) ?_
          refine va_get (D := D) (ci := 9) (v := .ref q_1) (C := RX9) (T := TX9) (N := 7) hx hb hts iw_X9_init_X9 hown hK hP 0 rfl rfl 1 (by decide) (hts (.fieldLink RX9 11 "SoldHouse$Tokens" "own" "[J") (List.mem_of_getElem? (i := 5) rfl)) (fun _ h9 => h9) rfl dX9_init_68 ?_
          refine lv_iload_n hx hb dX9_init_71 rfl (lv_at hl 2 rfl) ?_
          refine lv_lload_n hx hb dX9_init_72 rfl (lv_at hl 1 rfl) ?_
          refine va_last hx hb hK hP hD hS 1 2 rfl rfl (vp_in_nI (by omega) (by decide)) dX9_init_73 (fun H locs hP hD hS => ?_)
          replace hP : va_P D classes [(a0, .inr (9, [.ref aT, .ref q_1, .int 0, .int 0, .int 0, .long 0, .int 0])), (q_1, .inl (cL, 17, .inr (.inl (vp_updL g_2 (Int32.toNatClampNeg (nI k24_2)) z24_3))))] H := hP
          replace hD : va_D A [(a0, .inr (9, [.ref aT, .ref q_1, .int 0, .int 0, .int 0, .long 0, .int 0])), (q_1, .inl (cL, 17, .inr (.inl (vp_updL g_2 (Int32.toNatClampNeg (nI k24_2)) z24_3))))] := hD
          generalize eg_8 : vp_updL g_2 (Int32.toNatClampNeg (nI k24_2)) z24_3 = g_8 at hP hD
          clear eg_8
          refine lv_iinc (v := nI (k24_2 + 1)) (lv' := [(2, .int (nI (k24_2 + 1))), (5, .int (nI i24)), (3, .long z24_3), (0, .ref a0), (1, .ref aT)]) hx hb dX9_init_74 hl (k := 2) rfl (nI_1 k24_2) (by decide) rfl (fun ls hl => ?_)
          refine lv_lconst (v := 0) hx hb dX9_init_77 (by decide) ?_
          refine lv_lstore_n (lv' := [(3, .long 0), (2, .int (nI (k24_2 + 1))), (5, .int (nI i24)), (0, .ref a0), (1, .ref aT)]) hx hb dX9_init_78 rfl hl (by decide) rfl (fun ls hl => ?_)
          refine lv_iinc (v := nI (i24 + 1)) (lv' := [(5, .int (nI (i24 + 1))), (3, .long 0), (2, .int (nI (k24_2 + 1))), (0, .ref a0), (1, .ref aT)]) hx hb dX9_init_79 hl (k := 2) rfl (nI_1 i24) (by decide) rfl (fun ls hl => ?_)
          refine lv_goto (tgt := 24) hx hb dX9_init_82 (by decide) ?_
          replace hl : lv_has ls 6 [(5, .int (nI (i24 + 1))), (3, .long 0), (2, .int (nI (k24_2 + 1))), (0, .ref a0), (1, .ref aT)] := lv_sub hl [0, 1, 2, 3, 4] rfl
          apply ih24 (i24 := (i24 + 1)) (H := H) (locs := locs) (ls := ls) (k24_2 := ((k24_2 + 1))) (z24_3 := (0)) (g_2 := (g_8)) <;> first | assumption | omega
      · refine lv_lload_n hx hb dX9_init_46 rfl (lv_at hl 1 rfl) ?_
        refine va_ldcS hx hb hown hStr.1 dX9_init_47 ?_
        refine lv_iload hx hb dX9_init_49 (lv_at hl 0 rfl) ?_
        refine vp_callSi (va_runV (As := [.int (nI i24)]) (rest := [.long z24_3]) ⟨hx, hb, hml, hown, hts⟩ (s_charAt l aS vS fo i24 (by omega)) (cwV 1 hts gX9_init_J0_charAt_5068e rfl rfl rfl (by decide +kernel) ⟨Nat.le_of_ble_eq_true rfl, Nat.le_of_ble_eq_true rfl⟩) ⟨xq_blind, xS.recv hStr hS, fun U hU hW => xq_mk hU hW hStr hS⟩ rfl rfl hl.1 rfl (lv_room (Nat.le_of_ble_eq_true rfl)) dX9_init_51 ⟨Nat.le_of_ble_eq_true rfl, Nat.le_of_ble_eq_true rfl⟩).run (fun r_9 hr_9 => ?_)
        have hnc := hr_9
        clear hr_9
        have hPc := hP.sub (ws' := []) [] rfl
        refine vp_callSl (va_runS (As := [.long z24_3, .int r_9]) (rest := []) ⟨hx, hb, hml, hown, hts⟩ (i_withLetter l D cI cB cL cZ z24_3 r_9) (va_cwS 2 hts gX9_init_X9_withLetter rfl rfl rfl (by decide +kernel) ⟨Nat.le_of_ble_eq_true rfl, Nat.le_of_ble_eq_true rfl⟩) ⟨xr_blind, fun U hU hW => xr_mk hU hW hPc hK⟩ rfl rfl hl.1 rfl (lv_room (Nat.le_of_ble_eq_true rfl)) dX9_init_54 ⟨Nat.le_of_ble_eq_true rfl, Nat.le_of_ble_eq_true rfl⟩).run (fun r_10 hr_10 => ?_)
        clear hPc
        clear hr_10
        refine lv_lstore_n (lv' := [(3, .long r_10), (5, .int (nI i24)), (2, .int (nI k24_2)), (0, .ref a0), (1, .ref aT)]) hx hb dX9_init_57 rfl hl (by decide) rfl (fun ls hl => ?_)
        refine lv_goto (tgt := 79) hx hb dX9_init_58 (by decide) ?_
        refine lv_iinc (v := nI (i24 + 1)) (lv' := [(5, .int (nI (i24 + 1))), (3, .long r_10), (2, .int (nI k24_2)), (0, .ref a0), (1, .ref aT)]) hx hb dX9_init_79 hl (k := 1) rfl (nI_1 i24) (by decide) rfl (fun ls hl => ?_)
        refine lv_goto (tgt := 24) hx hb dX9_init_82 (by decide) ?_
        replace hl : lv_has ls 6 [(5, .int (nI (i24 + 1))), (3, .long r_10), (2, .int (nI k24_2)), (0, .ref a0), (1, .ref aT)] := lv_sub hl [0, 1, 2, 3, 4] rfl
        apply ih24 (i24 := (i24 + 1)) (H := H) (locs := locs) (ls := ls) (k24_2 := (k24_2)) (z24_3 := (r_10)) (g_2 := (g_2)) <;> first | assumption | omega
set_option maxHeartbeats 4000000 in
set_option maxRecDepth 100000 in
theorem i_Reader (l : Launch) (aS : Nat) (vS : Nat) (fo : Option Nat) (D : va_G) (cI : ClassId) (cB : ClassId) (cL : ClassId) (cZ : ClassId) (a0 : Nat) (aT : Nat) (aX : Nat) (sz : Nat) : Met l yX6_init wsX6_init ({ frames := 5, cells := 2, slots := 24, locals := 110 }) (xpS D [(cI, .int), (cB, .byte), (cL, .long), (cZ, .boolean)] [(a0, .inr (6, [.null, .null, .int 0, .int 0]))] sz [] aS vS fo [.ref a0, .ref aT, .ref aX]) (va_Qv (fun _ : Unit => True) (fun (_ : Unit) (t : State) => ∃ (rt : Nat), ∃ (to : Nat), xB D (va_A [(a0, .inr (6, [.null, .null, .int 0, .int 0]))] sz) [(a0, .inr (6, [.ref rt, .ref aX, .int 0, .int (-1)])), (rt, .inr (9, [.ref aT, .ref to, .int 0, .int 0, .int 0, .long 0, .int 0]))] t) (va_A [(a0, .inr (6, [.null, .null, .int 0, .int 0]))] sz)) 2 24 (va_A [(a0, .inr (6, [.null, .null, .int 0, .int 0]))] sz) := by
  refine Met.ofW (cc := cX6_init) (maxL := 3) (ret := none) (by decide) rfl ?_
  intro p e s m args below meth c s₁ B hml hv
  obtain ⟨rfl, hsz, hP, hK, hD0, hNw, hAO, hStr⟩ := hv
  have hx := B.exec
  have hb := B.bytes
  have hr := B.returns
  have hts := atoms_spec (ws := wsX6_init) B.pre
  have hown : s.vm.findClass RX6 = some m.cls := findClass_of_methodNamed B.named
  have hlocks := B.notSynchronized
  have hin : meth.name = "<init>" := (name_of_methodNamed B.named B.method).1
  subst hsz
  have hD := hD0.self (sz := s.heap.size)
  clear hD0
  generalize hAe : va_A [(a0, .inr (6, [.null, .null, .int 0, .int 0]))] s.heap.size = A at hD hStr ⊢
  have hA : ∀ q : Nat, s.heap.size ≤ q → A q := fun q h => by rw [← hAe]; exact Or.inr h
  have hS : va_S A s.heap s.heap [] := va_S.rf
  clear hAe
  obtain ⟨H, hH⟩ : ∃ H : Heap, H = s.heap := ⟨_, rfl⟩
  obtain ⟨locs, hlocs⟩ : ∃ L : List Loc, L = [] := ⟨_, rfl⟩
  replace hP : va_P D classes [(a0, .inr (6, [.null, .null, .int 0, .int 0]))] H := by rw [hH]; exact hP
  replace hS : va_S A s.heap H locs := by rw [hH, hlocs]; exact hS
  rw [← hH, ← hlocs]
  clear hlocs hH
  have hl := lv_entry ([.ref a0, .ref aT, .ref aX]) (n := 3) (Nat.le_of_ble_eq_true rfl)
  rw [lg_entry_eq]
  generalize (lg_sl ([.ref a0, .ref aT, .ref aX]) ++ List.replicate (3 - (lg_sl ([.ref a0, .ref aT, .ref aX])).length) Slot.unset).toArray = ls at hl ⊢
  replace hl : lv_has ls 3 [(0, .ref a0), (1, .ref aT), (2, .ref aX)] := hl
  refine lv_aload_n hx hb dX6_init_0 rfl (lv_at hl 0 rfl) ?_
  refine W.objInit hx hb hown (hts (.methodLink RX6 3 objectInit) (List.mem_of_getElem? (i := 1) rfl)) (hts (.instanceMethod objectInit) (List.mem_of_getElem? (i := 2) rfl)) (hts (.code objectInit ⟨#[0xb1]⟩ 1 none) (List.mem_of_getElem? (i := 3) rfl)) rfl (by rw [hml]; exact hl.1) rfl dX6_init_1 (Nat.le_of_ble_eq_true rfl) (Nat.le_of_ble_eq_true rfl) ?_
  refine W.eq (g2 := F0 m 4 ls []) rfl ?_
  refine lv_aload_n hx hb dX6_init_4 rfl (lv_at hl 0 rfl) ?_
  refine lv_iconst (v := (-1)) hx hb dX6_init_5 (by decide) ?_
  refine va_put (D := D) (ci := 6) (v := .int (-1)) (ty := tyX6 3) (C := RX6) (T := TX6) (N := 4) hx hb hts iw_X6_init_X6 tyX6 tyX6_ok nmX6 hown hK hP hD hS 0 rfl rfl 3 (by decide) (hts (.fieldLink RX6 9 "SoldHouse$Reader" "faultPlace" "I") (List.mem_of_getElem? (i := 4) rfl)) (fun _ h9 => h9) rfl (by decide +kernel) rfl rfl (Nat.le_of_ble_eq_true rfl) dX6_init_6 (fun H locs hP hD hS => ?_)
  replace hP : va_P D classes [(a0, .inr (6, [.null, .null, .int 0, .int (-1)]))] H := hP
  replace hD : va_D A [(a0, .inr (6, [.null, .null, .int 0, .int (-1)]))] := hD
  refine lv_aload_n hx hb dX6_init_9 rfl (lv_at hl 0 rfl) ?_
  refine va_new (ci := 9) (fs := [.null, .null, .int 0, .int 0, .int 0, .long 0, .int 0]) (C := RX9) (T := TX9) (N := 7) hx hb hts iw_X6_init_X9 tyX9 tyX9_ok hown (hts (.classLink RX6 15 RX9) (List.mem_of_getElem? (i := 5) rfl)) (hts (.instantiable RX9 7) (List.mem_of_getElem? (i := 6) rfl)) (hts (.initialized RX9) (List.mem_of_getElem? (i := 7) rfl)) hK hP hD hS hA rfl (fun j hj => by rcases (show j = 0 ∨ j = 1 ∨ j = 2 ∨ j = 3 ∨ j = 4 ∨ j = 5 ∨ j = 6 by omega) with rfl | rfl | rfl | rfl | rfl | rfl | rfl <;> rfl) (Nat.le_of_ble_eq_true rfl) (Nat.le_of_ble_eq_true rfl) dX6_init_10 (fun q_1 H hP hD hS => ?_)
  replace hP : va_P D classes [(a0, .inr (6, [.null, .null, .int 0, .int (-1)])), (q_1, .inr (9, [.null, .null, .int 0, .int 0, .int 0, .long 0, .int 0]))] H := hP
  replace hD : va_D A [(a0, .inr (6, [.null, .null, .int 0, .int (-1)])), (q_1, .inr (9, [.null, .null, .int 0, .int 0, .int 0, .long 0, .int 0]))] := hD
  refine lv_dup hx hb dX6_init_13 rfl ?_
  refine lv_aload_n hx hb dX6_init_14 rfl (lv_at hl 1 rfl) ?_
  have hPc := hP.sub (ws' := [(q_1, .inr (9, [.null, .null, .int 0, .int 0, .int 0, .long 0, .int 0]))]) [1] rfl
  have hDc := hD.sub (ws' := [(q_1, .inr (9, [.null, .null, .int 0, .int 0, .int 0, .long 0, .int 0]))]) [1] (by decide) rfl
  have hFc := va_free (wc := [(q_1, .inr (9, [.null, .null, .int 0, .int 0, .int 0, .long 0, .int 0]))]) hD hS hA [1] rfl
  refine va_callv (va_runI (As := [.ref aT]) (rest := [.ref q_1, .ref a0]) ⟨hx, hb, hml, hown, hts⟩ (i_Tokens l aS vS fo D cI cB cL cZ q_1 aT H.size) (cwI 1 hts gX6_init_X9_init rfl rfl rfl (hts (.initialized RX9) (List.mem_of_getElem? (i := 7) rfl)) (hts (.methodLink RX6 17 yX9_init) (List.mem_of_getElem? (i := 10) rfl)) (hts (.instanceMethod yX9_init) (List.mem_of_getElem? (i := 11) rfl)) rfl (by decide +kernel) ⟨Nat.le_of_ble_eq_true rfl, Nat.le_of_ble_eq_true rfl⟩) ⟨xpS_blind, fun U hU hW => xpS_mk hU hW hPc hK hDc xNw_nil hAO hStr hS hFc⟩ rfl rfl hl.1 rfl (lv_room (Nat.le_of_ble_eq_true rfl)) dX6_init_15 ⟨Nat.le_of_ble_eq_true rfl, Nat.le_of_ble_eq_true rfl⟩) hS (fun q _ h => hFc q h) hFc (fun u9 t9 H1 locs ht9 hvm9 hr_2 hB9 hz9 hk9 hS => ?_)
  obtain ⟨to__3, hP1, hD1⟩ := hB9
  rw [ht9] at hP1
  obtain ⟨hP, hD⟩ := va_join (wr := [(a0, .inr (6, [.null, .null, .int 0, .int (-1)]))]) (w1 := [(q_1, .inr (9, [.ref aT, .ref to__3, .int 0, .int 0, .int 0, .long 0, .int 0]))]) hP hD [1] [0] rfl rfl (by decide) (by decide) hk9 hFc hP1 hD1
  clear hz9 hPc hDc hP1 hD1
  clear hk9 hFc ht9 hvm9
  generalize H1 = H at hP hS ⊢
  replace hP : va_P D classes [(a0, .inr (6, [.null, .null, .int 0, .int (-1)])), (q_1, .inr (9, [.ref aT, .ref to__3, .int 0, .int 0, .int 0, .long 0, .int 0]))] H := hP
  replace hD : va_D A [(a0, .inr (6, [.null, .null, .int 0, .int (-1)])), (q_1, .inr (9, [.ref aT, .ref to__3, .int 0, .int 0, .int 0, .long 0, .int 0]))] := hD
  refine va_putF (D := D) (ci := 6) (v := .ref q_1) (ty := tyX6 0) (C := RX6) (T := TX6) (N := 4) hx hb hts iw_X6_init_X6 tyX6 tyX6_ok nmX6 hown hK hP hD hS 0 rfl rfl 0 (by decide) (hts (.fieldLink RX6 20 "SoldHouse$Reader" "tokens" "LSoldHouse$Tokens;") (List.mem_of_getElem? (i := 8) rfl)) (fun _ h9 => h9) rfl hin rfl (by decide +kernel) rfl rfl (Nat.le_of_ble_eq_true rfl) dX6_init_18 (fun H locs hP hD hS => ?_)
  replace hP : va_P D classes [(a0, .inr (6, [.ref q_1, .null, .int 0, .int (-1)])), (q_1, .inr (9, [.ref aT, .ref to__3, .int 0, .int 0, .int 0, .long 0, .int 0]))] H := hP
  replace hD : va_D A [(a0, .inr (6, [.ref q_1, .null, .int 0, .int (-1)])), (q_1, .inr (9, [.ref aT, .ref to__3, .int 0, .int 0, .int 0, .long 0, .int 0]))] := hD
  refine lv_aload_n hx hb dX6_init_21 rfl (lv_at hl 0 rfl) ?_
  refine lv_aload_n hx hb dX6_init_22 rfl (lv_at hl 2 rfl) ?_
  refine va_put (D := D) (ci := 6) (v := .ref aX) (ty := tyX6 1) (C := RX6) (T := TX6) (N := 4) hx hb hts iw_X6_init_X6 tyX6 tyX6_ok nmX6 hown hK hP hD hS 0 rfl rfl 1 (by decide) (hts (.fieldLink RX6 24 "SoldHouse$Reader" "plan" "LSoldHouse$Plan;") (List.mem_of_getElem? (i := 9) rfl)) (fun _ h9 => h9) rfl (by decide +kernel) rfl rfl (Nat.le_of_ble_eq_true rfl) dX6_init_23 (fun H locs hP hD hS => ?_)
  replace hP : va_P D classes [(a0, .inr (6, [.ref q_1, .ref aX, .int 0, .int (-1)])), (q_1, .inr (9, [.ref aT, .ref to__3, .int 0, .int 0, .int 0, .long 0, .int 0]))] H := hP
  replace hD : va_D A [(a0, .inr (6, [.ref q_1, .ref aX, .int 0, .int (-1)])), (q_1, .inr (9, [.ref aT, .ref to__3, .int 0, .int 0, .int 0, .long 0, .int 0]))] := hD
  have hP9 := hP.sub (ws' := [(a0, .inr (6, [.ref q_1, .ref aX, .int 0, .int (-1)])), (q_1, .inr (9, [.ref aT, .ref to__3, .int 0, .int 0, .int 0, .long 0, .int 0]))]) [0, 1] rfl
  have hD9 := hD.sub (ws' := [(a0, .inr (6, [.ref q_1, .ref aX, .int 0, .int (-1)])), (q_1, .inr (9, [.ref aT, .ref to__3, .int 0, .int 0, .int 0, .long 0, .int 0]))]) [0, 1] (by decide) rfl
  refine W.widen (k := 2) (n := 24) (Nat.le_of_ble_eq_true rfl) (Nat.le_of_ble_eq_true rfl) ?_
  exact W.vret hx hb hr (fun t ht hW => ⟨⟨(), rfl, trivial, ⟨q_1, to__3, by rw [ht]; exact hP9, hD9⟩⟩, hS.F ht⟩) hS.2.2 dX6_init_26
set_option maxHeartbeats 4000000 in
set_option maxRecDepth 100000 in
theorem i_Formula (l : Launch) (D : va_G) (cI : ClassId) (cB : ClassId) (cL : ClassId) (cZ : ClassId) (a0 : Nat) (sz : Nat) : Met l yX1_init wsX1_init ({ frames := 1, cells := 3, slots := 466, locals := 12 }) (xp D [(cI, .int), (cB, .byte), (cL, .long), (cZ, .boolean)] [(a0, .inr (1, [.null, .null, .null, .int 0, .int 0, .int 0]))] sz [] [.ref a0]) (va_Qv (fun _ : Unit => True) (fun (_ : Unit) (t : State) => ∃ (s0 : Nat), ∃ (s1 : Nat), ∃ (s2 : Nat), xB D (va_A [(a0, .inr (1, [.null, .null, .null, .int 0, .int 0, .int 0]))] sz) [(a0, .inr (1, [.ref s0, .ref s1, .ref s2, .int 0, .int 0, .int 0]))] t) (va_A [(a0, .inr (1, [.null, .null, .null, .int 0, .int 0, .int 0]))] sz)) 3 466 (va_A [(a0, .inr (1, [.null, .null, .null, .int 0, .int 0, .int 0]))] sz) := by
  refine Met.ofW (cc := cX1_init) (maxL := 1) (ret := none) (by decide) rfl ?_
  intro p e s m args below meth c s₁ B hml hv
  obtain ⟨rfl, hsz, hP, hK, hD0, hNw⟩ := hv
  have hx := B.exec
  have hb := B.bytes
  have hr := B.returns
  have hts := atoms_spec (ws := wsX1_init) B.pre
  have hown : s.vm.findClass RX1 = some m.cls := findClass_of_methodNamed B.named
  have hlocks := B.notSynchronized
  have hin : meth.name = "<init>" := (name_of_methodNamed B.named B.method).1
  subst hsz
  have hD := hD0.self (sz := s.heap.size)
  clear hD0
  generalize hAe : va_A [(a0, .inr (1, [.null, .null, .null, .int 0, .int 0, .int 0]))] s.heap.size = A at hD ⊢
  have hA : ∀ q : Nat, s.heap.size ≤ q → A q := fun q h => by rw [← hAe]; exact Or.inr h
  have hS : va_S A s.heap s.heap [] := va_S.rf
  clear hAe
  obtain ⟨H, hH⟩ : ∃ H : Heap, H = s.heap := ⟨_, rfl⟩
  obtain ⟨locs, hlocs⟩ : ∃ L : List Loc, L = [] := ⟨_, rfl⟩
  replace hP : va_P D classes [(a0, .inr (1, [.null, .null, .null, .int 0, .int 0, .int 0]))] H := by rw [hH]; exact hP
  replace hS : va_S A s.heap H locs := by rw [hH, hlocs]; exact hS
  rw [← hH, ← hlocs]
  clear hlocs hH
  have hl := lv_entry ([.ref a0]) (n := 1) (Nat.le_of_ble_eq_true rfl)
  rw [lg_entry_eq]
  generalize (lg_sl ([.ref a0]) ++ List.replicate (1 - (lg_sl ([.ref a0])).length) Slot.unset).toArray = ls at hl ⊢
  replace hl : lv_has ls 1 [(0, .ref a0)] := hl
  refine lv_aload_n hx hb dX1_init_0 rfl (lv_at hl 0 rfl) ?_
  refine W.objInit hx hb hown (hts (.methodLink RX1 1 objectInit) (List.mem_of_getElem? (i := 1) rfl)) (hts (.instanceMethod objectInit) (List.mem_of_getElem? (i := 2) rfl)) (hts (.code objectInit ⟨#[0xb1]⟩ 1 none) (List.mem_of_getElem? (i := 3) rfl)) rfl (by rw [hml]; exact hl.1) rfl dX1_init_1 (Nat.le_of_ble_eq_true rfl) (Nat.le_of_ble_eq_true rfl) ?_
  refine W.eq (g2 := F0 m 4 ls []) rfl ?_
  refine lv_aload_n hx hb dX1_init_4 rfl (lv_at hl 0 rfl) ?_
  refine lv_sipush (v := 400) hx hb dX1_init_5 (by decide) ?_
  refine zz_newD (atype := .int) (a0 := (400, .inl (fun _ => 0))) (N' := 400) hx hb (hts (.arrayClass .int) (List.mem_of_getElem? (i := 4) rfl)) rfl hK hP hD hS hA (fun _ => rfl) (by decide) (by decide) (Nat.le_of_ble_eq_true rfl) (Nat.le_of_ble_eq_true rfl) (Nat.le_of_ble_eq_true rfl) dX1_init_8 (fun q_1 H hP hD hS => ?_)
  refine va_putF (D := D) (ci := 1) (v := .ref q_1) (ty := tyX1 0) (C := RX1) (T := TX1) (N := 6) hx hb hts iw_X1_init_X1 tyX1 tyX1_ok nmX1 hown hK hP hD hS 0 rfl rfl 0 (by decide) (hts (.fieldLink RX1 9 "SoldHouse$Formula" "steps" "[I") (List.mem_of_getElem? (i := 5) rfl)) (fun _ h9 => h9) rfl hin rfl (by decide +kernel) rfl rfl (Nat.le_of_ble_eq_true rfl) dX1_init_10 (fun H locs hP hD hS => ?_)
  replace hP : va_P D classes [(a0, .inr (1, [.ref q_1, .null, .null, .int 0, .int 0, .int 0]))] H := hP
  replace hD : va_D A [(a0, .inr (1, [.ref q_1, .null, .null, .int 0, .int 0, .int 0]))] := hD
  refine lv_aload_n hx hb dX1_init_13 rfl (lv_at hl 0 rfl) ?_
  refine lv_bipush (v := 61) hx hb dX1_init_14 (by decide) ?_
  refine zz_newD (atype := .int) (a0 := (61, .inl (fun _ => 0))) (N' := 61) hx hb (hts (.arrayClass .int) (List.mem_of_getElem? (i := 4) rfl)) rfl hK hP hD hS hA (fun _ => rfl) (by decide) (by decide) (Nat.le_of_ble_eq_true rfl) (Nat.le_of_ble_eq_true rfl) (Nat.le_of_ble_eq_true rfl) dX1_init_16 (fun q_2 H hP hD hS => ?_)
  refine va_putF (D := D) (ci := 1) (v := .ref q_2) (ty := tyX1 1) (C := RX1) (T := TX1) (N := 6) hx hb hts iw_X1_init_X1 tyX1 tyX1_ok nmX1 hown hK hP hD hS 0 rfl rfl 1 (by decide) (hts (.fieldLink RX1 13 "SoldHouse$Formula" "stack" "[I") (List.mem_of_getElem? (i := 6) rfl)) (fun _ h9 => h9) rfl hin rfl (by decide +kernel) rfl rfl (Nat.le_of_ble_eq_true rfl) dX1_init_18 (fun H locs hP hD hS => ?_)
  replace hP : va_P D classes [(a0, .inr (1, [.ref q_1, .ref q_2, .null, .int 0, .int 0, .int 0]))] H := hP
  replace hD : va_D A [(a0, .inr (1, [.ref q_1, .ref q_2, .null, .int 0, .int 0, .int 0]))] := hD
  refine lv_aload_n hx hb dX1_init_21 rfl (lv_at hl 0 rfl) ?_
  refine lv_iconst (v := 5) hx hb dX1_init_22 (by decide) ?_
  refine zz_newD (atype := .int) (a0 := (5, .inl (fun _ => 0))) (N' := 5) hx hb (hts (.arrayClass .int) (List.mem_of_getElem? (i := 4) rfl)) rfl hK hP hD hS hA (fun _ => rfl) (by decide) (by decide) (Nat.le_of_ble_eq_true rfl) (Nat.le_of_ble_eq_true rfl) (Nat.le_of_ble_eq_true rfl) dX1_init_23 (fun q_3 H hP hD hS => ?_)
  refine va_putF (D := D) (ci := 1) (v := .ref q_3) (ty := tyX1 2) (C := RX1) (T := TX1) (N := 6) hx hb hts iw_X1_init_X1 tyX1 tyX1_ok nmX1 hown hK hP hD hS 0 rfl rfl 2 (by decide) (hts (.fieldLink RX1 16 "SoldHouse$Formula" "known" "[I") (List.mem_of_getElem? (i := 7) rfl)) (fun _ h9 => h9) rfl hin rfl (by decide +kernel) rfl rfl (Nat.le_of_ble_eq_true rfl) dX1_init_25 (fun H locs hP hD hS => ?_)
  replace hP : va_P D classes [(a0, .inr (1, [.ref q_1, .ref q_2, .ref q_3, .int 0, .int 0, .int 0]))] H := hP
  replace hD : va_D A [(a0, .inr (1, [.ref q_1, .ref q_2, .ref q_3, .int 0, .int 0, .int 0]))] := hD
  have hP9 := hP.sub (ws' := [(a0, .inr (1, [.ref q_1, .ref q_2, .ref q_3, .int 0, .int 0, .int 0]))]) [0] rfl
  have hD9 := hD.sub (ws' := [(a0, .inr (1, [.ref q_1, .ref q_2, .ref q_3, .int 0, .int 0, .int 0]))]) [0] (by decide) rfl
  refine W.widen (k := 3) (n := 466) (Nat.le_of_ble_eq_true rfl) (Nat.le_of_ble_eq_true rfl) ?_
  exact W.vret hx hb hr (fun t ht hW => ⟨⟨(), rfl, trivial, ⟨q_1, q_2, q_3, by rw [ht]; exact hP9, hD9⟩⟩, hS.F ht⟩) hS.2.2 dX1_init_28
set_option maxHeartbeats 4000000 in
set_option maxRecDepth 100000 in
theorem i_Plan (l : Launch) (D : va_G) (cI : ClassId) (cB : ClassId) (cL : ClassId) (cZ : ClassId) (a0 : Nat) (sz : Nat) : Met l yX5_init wsX5_init ({ frames := 2, cells := 14, slots := 548, locals := 32 }) (xp D [(cI, .int), (cB, .byte), (cL, .long), (cZ, .boolean)] [(a0, .inr (5, [.int 0, .null, .null, .int 0, .null, .null, .int 0, .null, .null, .null, .null, .null, .null, .null, .int 0, .int 0]))] sz [(RX5, 45, yX1_init, "SoldHouse")] [.ref a0]) (va_Qv (fun _ : Unit => True) (fun (_ : Unit) (t : State) => ∃ (pz : Nat → Nat), ∃ (su : Nat), ∃ (s0 : Nat), ∃ (s1 : Nat), ∃ (s2 : Nat), xB D (va_A [(a0, .inr (5, [.int 0, .null, .null, .int 0, .null, .null, .int 0, .null, .null, .null, .null, .null, .null, .null, .int 0, .int 0]))] sz) [(a0, .inr (5, PF pz su)), (su, .inr (1, [.ref s0, .ref s1, .ref s2, .int 0, .int 0, .int 0]))] t) (va_A [(a0, .inr (5, [.int 0, .null, .null, .int 0, .null, .null, .int 0, .null, .null, .null, .null, .null, .null, .null, .int 0, .int 0]))] sz)) 14 548 (va_A [(a0, .inr (5, [.int 0, .null, .null, .int 0, .null, .null, .int 0, .null, .null, .null, .null, .null, .null, .null, .int 0, .int 0]))] sz) := by
  refine Met.ofW (cc := cX5_init) (maxL := 1) (ret := none) (by decide) rfl ?_
  intro p e s m args below meth c s₁ B hml hv
  obtain ⟨rfl, hsz, hP, hK, hD0, hNw⟩ := hv
  have hx := B.exec
  have hb := B.bytes
  have hr := B.returns
  have hts := atoms_spec (ws := wsX5_init) B.pre
  have hown : s.vm.findClass RX5 = some m.cls := findClass_of_methodNamed B.named
  have hlocks := B.notSynchronized
  have hin : meth.name = "<init>" := (name_of_methodNamed B.named B.method).1
  subst hsz
  have hD := hD0.self (sz := s.heap.size)
  clear hD0
  generalize hAe : va_A [(a0, .inr (5, [.int 0, .null, .null, .int 0, .null, .null, .int 0, .null, .null, .null, .null, .null, .null, .null, .int 0, .int 0]))] s.heap.size = A at hD ⊢
  have hA : ∀ q : Nat, s.heap.size ≤ q → A q := fun q h => by rw [← hAe]; exact Or.inr h
  have hS : va_S A s.heap s.heap [] := va_S.rf
  clear hAe
  obtain ⟨H, hH⟩ : ∃ H : Heap, H = s.heap := ⟨_, rfl⟩
  obtain ⟨locs, hlocs⟩ : ∃ L : List Loc, L = [] := ⟨_, rfl⟩
  replace hP : va_P D classes [(a0, .inr (5, [.int 0, .null, .null, .int 0, .null, .null, .int 0, .null, .null, .null, .null, .null, .null, .null, .int 0, .int 0]))] H := by rw [hH]; exact hP
  replace hS : va_S A s.heap H locs := by rw [hH, hlocs]; exact hS
  rw [← hH, ← hlocs]
  clear hlocs hH
  have hl := lv_entry ([.ref a0]) (n := 1) (Nat.le_of_ble_eq_true rfl)
  rw [lg_entry_eq]
  generalize (lg_sl ([.ref a0]) ++ List.replicate (1 - (lg_sl ([.ref a0])).length) Slot.unset).toArray = ls at hl ⊢
  replace hl : lv_has ls 1 [(0, .ref a0)] := hl
  refine lv_aload_n hx hb dX5_init_0 rfl (lv_at hl 0 rfl) ?_
  refine W.objInit hx hb hown (hts (.methodLink RX5 3 objectInit) (List.mem_of_getElem? (i := 1) rfl)) (hts (.instanceMethod objectInit) (List.mem_of_getElem? (i := 2) rfl)) (hts (.code objectInit ⟨#[0xb1]⟩ 1 none) (List.mem_of_getElem? (i := 3) rfl)) rfl (by rw [hml]; exact hl.1) rfl dX5_init_1 (Nat.le_of_ble_eq_true rfl) (Nat.le_of_ble_eq_true rfl) ?_
  refine W.eq (g2 := F0 m 4 ls []) rfl ?_
  refine lv_aload_n hx hb dX5_init_4 rfl (lv_at hl 0 rfl) ?_
  refine lv_bipush (v := 8) hx hb dX5_init_5 (by decide) ?_
  refine zz_newD (atype := .long) (a0 := (8, .inr (.inl (fun _ => 0)))) (N' := 8) hx hb (hts (.arrayClass .long) (List.mem_of_getElem? (i := 4) rfl)) rfl hK hP hD hS hA (fun _ => rfl) (by decide) (by decide) (Nat.le_of_ble_eq_true rfl) (Nat.le_of_ble_eq_true rfl) (Nat.le_of_ble_eq_true rfl) dX5_init_7 (fun q_1 H hP hD hS => ?_)
  refine va_putF (D := D) (ci := 5) (v := .ref q_1) (ty := tyX5 1) (C := RX5) (T := TX5) (N := 16) hx hb hts iw_X5_init_X5 tyX5 tyX5_ok nmX5 hown hK hP hD hS 0 rfl rfl 1 (by decide) (hts (.fieldLink RX5 9 "SoldHouse$Plan" "roomName" "[J") (List.mem_of_getElem? (i := 5) rfl)) (fun _ h9 => h9) rfl hin rfl (by decide +kernel) rfl rfl (Nat.le_of_ble_eq_true rfl) dX5_init_9 (fun H locs hP hD hS => ?_)
  replace hP : va_P D classes [(a0, .inr (5, [.int 0, .ref q_1, .null, .int 0, .null, .null, .int 0, .null, .null, .null, .null, .null, .null, .null, .int 0, .int 0]))] H := hP
  replace hD : va_D A [(a0, .inr (5, [.int 0, .ref q_1, .null, .int 0, .null, .null, .int 0, .null, .null, .null, .null, .null, .null, .null, .int 0, .int 0]))] := hD
  refine lv_aload_n hx hb dX5_init_12 rfl (lv_at hl 0 rfl) ?_
  refine lv_bipush (v := 8) hx hb dX5_init_13 (by decide) ?_
  refine zz_newD (atype := .int) (a0 := (8, .inl (fun _ => 0))) (N' := 8) hx hb (hts (.arrayClass .int) (List.mem_of_getElem? (i := 6) rfl)) rfl hK hP hD hS hA (fun _ => rfl) (by decide) (by decide) (Nat.le_of_ble_eq_true rfl) (Nat.le_of_ble_eq_true rfl) (Nat.le_of_ble_eq_true rfl) dX5_init_15 (fun q_2 H hP hD hS => ?_)
  refine va_putF (D := D) (ci := 5) (v := .ref q_2) (ty := tyX5 2) (C := RX5) (T := TX5) (N := 16) hx hb hts iw_X5_init_X5 tyX5 tyX5_ok nmX5 hown hK hP hD hS 0 rfl rfl 2 (by decide) (hts (.fieldLink RX5 15 "SoldHouse$Plan" "creaks" "[I") (List.mem_of_getElem? (i := 7) rfl)) (fun _ h9 => h9) rfl hin rfl (by decide +kernel) rfl rfl (Nat.le_of_ble_eq_true rfl) dX5_init_17 (fun H locs hP hD hS => ?_)
  replace hP : va_P D classes [(a0, .inr (5, [.int 0, .ref q_1, .ref q_2, .int 0, .null, .null, .int 0, .null, .null, .null, .null, .null, .null, .null, .int 0, .int 0]))] H := hP
  replace hD : va_D A [(a0, .inr (5, [.int 0, .ref q_1, .ref q_2, .int 0, .null, .null, .int 0, .null, .null, .null, .null, .null, .null, .null, .int 0, .int 0]))] := hD
  refine lv_aload_n hx hb dX5_init_20 rfl (lv_at hl 0 rfl) ?_
  refine lv_bipush (v := 12) hx hb dX5_init_21 (by decide) ?_
  refine zz_newD (atype := .int) (a0 := (12, .inl (fun _ => 0))) (N' := 12) hx hb (hts (.arrayClass .int) (List.mem_of_getElem? (i := 6) rfl)) rfl hK hP hD hS hA (fun _ => rfl) (by decide) (by decide) (Nat.le_of_ble_eq_true rfl) (Nat.le_of_ble_eq_true rfl) (Nat.le_of_ble_eq_true rfl) dX5_init_23 (fun q_3 H hP hD hS => ?_)
  refine va_putF (D := D) (ci := 5) (v := .ref q_3) (ty := tyX5 4) (C := RX5) (T := TX5) (N := 16) hx hb hts iw_X5_init_X5 tyX5 tyX5_ok nmX5 hown hK hP hD hS 0 rfl rfl 4 (by decide) (hts (.fieldLink RX5 19 "SoldHouse$Plan" "doorFrom" "[I") (List.mem_of_getElem? (i := 8) rfl)) (fun _ h9 => h9) rfl hin rfl (by decide +kernel) rfl rfl (Nat.le_of_ble_eq_true rfl) dX5_init_25 (fun H locs hP hD hS => ?_)
  replace hP : va_P D classes [(a0, .inr (5, [.int 0, .ref q_1, .ref q_2, .int 0, .ref q_3, .null, .int 0, .null, .null, .null, .null, .null, .null, .null, .int 0, .int 0]))] H := hP
  replace hD : va_D A [(a0, .inr (5, [.int 0, .ref q_1, .ref q_2, .int 0, .ref q_3, .null, .int 0, .null, .null, .null, .null, .null, .null, .null, .int 0, .int 0]))] := hD
  refine lv_aload_n hx hb dX5_init_28 rfl (lv_at hl 0 rfl) ?_
  refine lv_bipush (v := 12) hx hb dX5_init_29 (by decide) ?_
  refine zz_newD (atype := .int) (a0 := (12, .inl (fun _ => 0))) (N' := 12) hx hb (hts (.arrayClass .int) (List.mem_of_getElem? (i := 6) rfl)) rfl hK hP hD hS hA (fun _ => rfl) (by decide) (by decide) (Nat.le_of_ble_eq_true rfl) (Nat.le_of_ble_eq_true rfl) (Nat.le_of_ble_eq_true rfl) dX5_init_31 (fun q_4 H hP hD hS => ?_)
  refine va_putF (D := D) (ci := 5) (v := .ref q_4) (ty := tyX5 5) (C := RX5) (T := TX5) (N := 16) hx hb hts iw_X5_init_X5 tyX5 tyX5_ok nmX5 hown hK hP hD hS 0 rfl rfl 5 (by decide) (hts (.fieldLink RX5 22 "SoldHouse$Plan" "doorTo" "[I") (List.mem_of_getElem? (i := 9) rfl)) (fun _ h9 => h9) rfl hin rfl (by decide +kernel) rfl rfl (Nat.le_of_ble_eq_true rfl) dX5_init_33 (fun H locs hP hD hS => ?_)
  replace hP : va_P D classes [(a0, .inr (5, [.int 0, .ref q_1, .ref q_2, .int 0, .ref q_3, .ref q_4, .int 0, .null, .null, .null, .null, .null, .null, .null, .int 0, .int 0]))] H := hP
  replace hD : va_D A [(a0, .inr (5, [.int 0, .ref q_1, .ref q_2, .int 0, .ref q_3, .ref q_4, .int 0, .null, .null, .null, .null, .null, .null, .null, .int 0, .int 0]))] := hD
  refine lv_aload_n hx hb dX5_init_36 rfl (lv_at hl 0 rfl) ?_
  refine lv_bipush (v := 6) hx hb dX5_init_37 (by decide) ?_
  refine zz_newD (atype := .long) (a0 := (6, .inr (.inl (fun _ => 0)))) (N' := 6) hx hb (hts (.arrayClass .long) (List.mem_of_getElem? (i := 4) rfl)) rfl hK hP hD hS hA (fun _ => rfl) (by decide) (by decide) (Nat.le_of_ble_eq_true rfl) (Nat.le_of_ble_eq_true rfl) (Nat.le_of_ble_eq_true rfl) dX5_init_39 (fun q_5 H hP hD hS => ?_)
  refine va_putF (D := D) (ci := 5) (v := .ref q_5) (ty := tyX5 7) (C := RX5) (T := TX5) (N := 16) hx hb hts iw_X5_init_X5 tyX5 tyX5_ok nmX5 hown hK hP hD hS 0 rfl rfl 7 (by decide) (hts (.fieldLink RX5 25 "SoldHouse$Plan" "thingName" "[J") (List.mem_of_getElem? (i := 10) rfl)) (fun _ h9 => h9) rfl hin rfl (by decide +kernel) rfl rfl (Nat.le_of_ble_eq_true rfl) dX5_init_41 (fun H locs hP hD hS => ?_)
  replace hP : va_P D classes [(a0, .inr (5, [.int 0, .ref q_1, .ref q_2, .int 0, .ref q_3, .ref q_4, .int 0, .ref q_5, .null, .null, .null, .null, .null, .null, .int 0, .int 0]))] H := hP
  replace hD : va_D A [(a0, .inr (5, [.int 0, .ref q_1, .ref q_2, .int 0, .ref q_3, .ref q_4, .int 0, .ref q_5, .null, .null, .null, .null, .null, .null, .int 0, .int 0]))] := hD
  refine lv_aload_n hx hb dX5_init_44 rfl (lv_at hl 0 rfl) ?_
  refine lv_bipush (v := 6) hx hb dX5_init_45 (by decide) ?_
  refine zz_newD (atype := .int) (a0 := (6, .inl (fun _ => 0))) (N' := 6) hx hb (hts (.arrayClass .int) (List.mem_of_getElem? (i := 6) rfl)) rfl hK hP hD hS hA (fun _ => rfl) (by decide) (by decide) (Nat.le_of_ble_eq_true rfl) (Nat.le_of_ble_eq_true rfl) (Nat.le_of_ble_eq_true rfl) dX5_init_47 (fun q_6 H hP hD hS => ?_)
  refine va_putF (D := D) (ci := 5) (v := .ref q_6) (ty := tyX5 8) (C := RX5) (T := TX5) (N := 16) hx hb hts iw_X5_init_X5 tyX5 tyX5_ok nmX5 hown hK hP hD hS 0 rfl rfl 8 (by decide) (hts (.fieldLink RX5 28 "SoldHouse$Plan" "in" "[I") (List.mem_of_getElem? (i := 11) rfl)) (fun _ h9 => h9) rfl hin rfl (by decide +kernel) rfl rfl (Nat.le_of_ble_eq_true rfl) dX5_init_49 (fun H locs hP hD hS => ?_)
  replace hP : va_P D classes [(a0, .inr (5, [.int 0, .ref q_1, .ref q_2, .int 0, .ref q_3, .ref q_4, .int 0, .ref q_5, .ref q_6, .null, .null, .null, .null, .null, .int 0, .int 0]))] H := hP
  replace hD : va_D A [(a0, .inr (5, [.int 0, .ref q_1, .ref q_2, .int 0, .ref q_3, .ref q_4, .int 0, .ref q_5, .ref q_6, .null, .null, .null, .null, .null, .int 0, .int 0]))] := hD
  refine lv_aload_n hx hb dX5_init_52 rfl (lv_at hl 0 rfl) ?_
  refine lv_bipush (v := 6) hx hb dX5_init_53 (by decide) ?_
  refine zz_newD (atype := .int) (a0 := (6, .inl (fun _ => 0))) (N' := 6) hx hb (hts (.arrayClass .int) (List.mem_of_getElem? (i := 6) rfl)) rfl hK hP hD hS hA (fun _ => rfl) (by decide) (by decide) (Nat.le_of_ble_eq_true rfl) (Nat.le_of_ble_eq_true rfl) (Nat.le_of_ble_eq_true rfl) dX5_init_55 (fun q_7 H hP hD hS => ?_)
  refine va_putF (D := D) (ci := 5) (v := .ref q_7) (ty := tyX5 9) (C := RX5) (T := TX5) (N := 16) hx hb hts iw_X5_init_X5 tyX5 tyX5_ok nmX5 hown hK hP hD hS 0 rfl rfl 9 (by decide) (hts (.fieldLink RX5 31 "SoldHouse$Plan" "was" "[I") (List.mem_of_getElem? (i := 12) rfl)) (fun _ h9 => h9) rfl hin rfl (by decide +kernel) rfl rfl (Nat.le_of_ble_eq_true rfl) dX5_init_57 (fun H locs hP hD hS => ?_)
  replace hP : va_P D classes [(a0, .inr (5, [.int 0, .ref q_1, .ref q_2, .int 0, .ref q_3, .ref q_4, .int 0, .ref q_5, .ref q_6, .ref q_7, .null, .null, .null, .null, .int 0, .int 0]))] H := hP
  replace hD : va_D A [(a0, .inr (5, [.int 0, .ref q_1, .ref q_2, .int 0, .ref q_3, .ref q_4, .int 0, .ref q_5, .ref q_6, .ref q_7, .null, .null, .null, .null, .int 0, .int 0]))] := hD
  refine lv_aload_n hx hb dX5_init_60 rfl (lv_at hl 0 rfl) ?_
  refine lv_bipush (v := 6) hx hb dX5_init_61 (by decide) ?_
  refine zz_newD (atype := .int) (a0 := (6, .inl (fun _ => 0))) (N' := 6) hx hb (hts (.arrayClass .int) (List.mem_of_getElem? (i := 6) rfl)) rfl hK hP hD hS hA (fun _ => rfl) (by decide) (by decide) (Nat.le_of_ble_eq_true rfl) (Nat.le_of_ble_eq_true rfl) (Nat.le_of_ble_eq_true rfl) dX5_init_63 (fun q_8 H hP hD hS => ?_)
  refine va_putF (D := D) (ci := 5) (v := .ref q_8) (ty := tyX5 10) (C := RX5) (T := TX5) (N := 16) hx hb hts iw_X5_init_X5 tyX5 tyX5_ok nmX5 hown hK hP hD hS 0 rfl rfl 10 (by decide) (hts (.fieldLink RX5 34 "SoldHouse$Plan" "ours" "[I") (List.mem_of_getElem? (i := 13) rfl)) (fun _ h9 => h9) rfl hin rfl (by decide +kernel) rfl rfl (Nat.le_of_ble_eq_true rfl) dX5_init_65 (fun H locs hP hD hS => ?_)
  replace hP : va_P D classes [(a0, .inr (5, [.int 0, .ref q_1, .ref q_2, .int 0, .ref q_3, .ref q_4, .int 0, .ref q_5, .ref q_6, .ref q_7, .ref q_8, .null, .null, .null, .int 0, .int 0]))] H := hP
  replace hD : va_D A [(a0, .inr (5, [.int 0, .ref q_1, .ref q_2, .int 0, .ref q_3, .ref q_4, .int 0, .ref q_5, .ref q_6, .ref q_7, .ref q_8, .null, .null, .null, .int 0, .int 0]))] := hD
  refine lv_aload_n hx hb dX5_init_68 rfl (lv_at hl 0 rfl) ?_
  refine lv_bipush (v := 6) hx hb dX5_init_69 (by decide) ?_
  refine zz_newD (atype := .int) (a0 := (6, .inl (fun _ => 0))) (N' := 6) hx hb (hts (.arrayClass .int) (List.mem_of_getElem? (i := 6) rfl)) rfl hK hP hD hS hA (fun _ => rfl) (by decide) (by decide) (Nat.le_of_ble_eq_true rfl) (Nat.le_of_ble_eq_true rfl) (Nat.le_of_ble_eq_true rfl) dX5_init_71 (fun q_9 H hP hD hS => ?_)
  refine va_putF (D := D) (ci := 5) (v := .ref q_9) (ty := tyX5 11) (C := RX5) (T := TX5) (N := 16) hx hb hts iw_X5_init_X5 tyX5 tyX5_ok nmX5 hown hK hP hD hS 0 rfl rfl 11 (by decide) (hts (.fieldLink RX5 37 "SoldHouse$Plan" "us" "[I") (List.mem_of_getElem? (i := 14) rfl)) (fun _ h9 => h9) rfl hin rfl (by decide +kernel) rfl rfl (Nat.le_of_ble_eq_true rfl) dX5_init_73 (fun H locs hP hD hS => ?_)
  replace hP : va_P D classes [(a0, .inr (5, [.int 0, .ref q_1, .ref q_2, .int 0, .ref q_3, .ref q_4, .int 0, .ref q_5, .ref q_6, .ref q_7, .ref q_8, .ref q_9, .null, .null, .int 0, .int 0]))] H := hP
  replace hD : va_D A [(a0, .inr (5, [.int 0, .ref q_1, .ref q_2, .int 0, .ref q_3, .ref q_4, .int 0, .ref q_5, .ref q_6, .ref q_7, .ref q_8, .ref q_9, .null, .null, .int 0, .int 0]))] := hD
  refine lv_aload_n hx hb dX5_init_76 rfl (lv_at hl 0 rfl) ?_
  refine lv_bipush (v := 6) hx hb dX5_init_77 (by decide) ?_
  refine zz_newD (atype := .int) (a0 := (6, .inl (fun _ => 0))) (N' := 6) hx hb (hts (.arrayClass .int) (List.mem_of_getElem? (i := 6) rfl)) rfl hK hP hD hS hA (fun _ => rfl) (by decide) (by decide) (Nat.le_of_ble_eq_true rfl) (Nat.le_of_ble_eq_true rfl) (Nat.le_of_ble_eq_true rfl) dX5_init_79 (fun q_10 H hP hD hS => ?_)
  refine va_putF (D := D) (ci := 5) (v := .ref q_10) (ty := tyX5 12) (C := RX5) (T := TX5) (N := 16) hx hb hts iw_X5_init_X5 tyX5 tyX5_ok nmX5 hown hK hP hD hS 0 rfl rfl 12 (by decide) (hts (.fieldLink RX5 40 "SoldHouse$Plan" "them" "[I") (List.mem_of_getElem? (i := 15) rfl)) (fun _ h9 => h9) rfl hin rfl (by decide +kernel) rfl rfl (Nat.le_of_ble_eq_true rfl) dX5_init_81 (fun H locs hP hD hS => ?_)
  replace hP : va_P D classes [(a0, .inr (5, [.int 0, .ref q_1, .ref q_2, .int 0, .ref q_3, .ref q_4, .int 0, .ref q_5, .ref q_6, .ref q_7, .ref q_8, .ref q_9, .ref q_10, .null, .int 0, .int 0]))] H := hP
  replace hD : va_D A [(a0, .inr (5, [.int 0, .ref q_1, .ref q_2, .int 0, .ref q_3, .ref q_4, .int 0, .ref q_5, .ref q_6, .ref q_7, .ref q_8, .ref q_9, .ref q_10, .null, .int 0, .int 0]))] := hD
  refine lv_aload_n hx hb dX5_init_84 rfl (lv_at hl 0 rfl) ?_
  refine va_new (ci := 1) (fs := [.null, .null, .null, .int 0, .int 0, .int 0]) (C := RX1) (T := TX1) (N := 6) hx hb hts iw_X5_init_X1 tyX1 tyX1_ok hown (hts (.classLink RX5 43 RX1) (List.mem_of_getElem? (i := 16) rfl)) (hts (.instantiable RX1 6) (List.mem_of_getElem? (i := 17) rfl)) (hts (.initialized RX1) (List.mem_of_getElem? (i := 18) rfl)) hK hP hD hS hA rfl (fun j hj => by rcases (show j = 0 ∨ j = 1 ∨ j = 2 ∨ j = 3 ∨ j = 4 ∨ j = 5 by omega) with rfl | rfl | rfl | rfl | rfl | rfl <;> rfl) (Nat.le_of_ble_eq_true rfl) (Nat.le_of_ble_eq_true rfl) dX5_init_85 (fun q_11 H hP hD hS => ?_)
  replace hP : va_P D classes [(a0, .inr (5, [.int 0, .ref q_1, .ref q_2, .int 0, .ref q_3, .ref q_4, .int 0, .ref q_5, .ref q_6, .ref q_7, .ref q_8, .ref q_9, .ref q_10, .null, .int 0, .int 0])), (q_11, .inr (1, [.null, .null, .null, .int 0, .int 0, .int 0]))] H := hP
  replace hD : va_D A [(a0, .inr (5, [.int 0, .ref q_1, .ref q_2, .int 0, .ref q_3, .ref q_4, .int 0, .ref q_5, .ref q_6, .ref q_7, .ref q_8, .ref q_9, .ref q_10, .null, .int 0, .int 0])), (q_11, .inr (1, [.null, .null, .null, .int 0, .int 0, .int 0]))] := hD
  refine lv_dup hx hb dX5_init_88 rfl ?_
  have hPc := hP.sub (ws' := [(q_11, .inr (1, [.null, .null, .null, .int 0, .int 0, .int 0]))]) [1] rfl
  have hDc := hD.sub (ws' := [(q_11, .inr (1, [.null, .null, .null, .int 0, .int 0, .int 0]))]) [1] (by decide) rfl
  have hFc := va_free (wc := [(q_11, .inr (1, [.null, .null, .null, .int 0, .int 0, .int 0]))]) hD hS hA [1] rfl
  refine va_callv (va_runIN (As := []) (rest := [.ref q_11, .ref a0]) ⟨hx, hb, hml, hown, hts⟩ (i_Formula l D cI cB cL cZ q_11 H.size) ⟨va_cnB 0 hts gX5_init_X1_init_n45 rfl rfl rfl (hNw (RX5, 45, yX1_init, "SoldHouse") (by simp)) (hts (.initialized RX1) (List.mem_of_getElem? (i := 18) rfl)) (by decide +kernel) ⟨Nat.le_of_ble_eq_true rfl, Nat.le_of_ble_eq_true rfl⟩, rfl, (hts (.instanceMethod yX1_init) (List.mem_of_getElem? (i := 20) rfl))⟩ ⟨xp_blind, fun U hU hW => xp_mk hU hW hPc hK hDc xNw_nil⟩ rfl rfl hl.1 rfl (lv_room (Nat.le_of_ble_eq_true rfl)) dX5_init_89 ⟨Nat.le_of_ble_eq_true rfl, Nat.le_of_ble_eq_true rfl⟩) hS (fun q _ h => hFc q h) hFc (fun u9 t9 H1 locs ht9 hvm9 hr_12 hB9 hz9 hk9 hS => ?_)
  obtain ⟨s0__13, s1__14, s2__15, hP1, hD1⟩ := hB9
  rw [ht9] at hP1
  obtain ⟨hP, hD⟩ := va_join (wr := [(a0, .inr (5, [.int 0, .ref q_1, .ref q_2, .int 0, .ref q_3, .ref q_4, .int 0, .ref q_5, .ref q_6, .ref q_7, .ref q_8, .ref q_9, .ref q_10, .null, .int 0, .int 0]))]) (w1 := [(q_11, .inr (1, [.ref s0__13, .ref s1__14, .ref s2__15, .int 0, .int 0, .int 0]))]) hP hD [1] [0] rfl rfl (by decide) (by decide) hk9 hFc hP1 hD1
  clear hz9 hPc hDc hP1 hD1
  clear hk9 hFc ht9 hvm9
  generalize H1 = H at hP hS ⊢
  replace hP : va_P D classes [(a0, .inr (5, [.int 0, .ref q_1, .ref q_2, .int 0, .ref q_3, .ref q_4, .int 0, .ref q_5, .ref q_6, .ref q_7, .ref q_8, .ref q_9, .ref q_10, .null, .int 0, .int 0])), (q_11, .inr (1, [.ref s0__13, .ref s1__14, .ref s2__15, .int 0, .int 0, .int 0]))] H := hP
  replace hD : va_D A [(a0, .inr (5, [.int 0, .ref q_1, .ref q_2, .int 0, .ref q_3, .ref q_4, .int 0, .ref q_5, .ref q_6, .ref q_7, .ref q_8, .ref q_9, .ref q_10, .null, .int 0, .int 0])), (q_11, .inr (1, [.ref s0__13, .ref s1__14, .ref s2__15, .int 0, .int 0, .int 0]))] := hD
  refine va_putF (D := D) (ci := 5) (v := .ref q_11) (ty := tyX5 13) (C := RX5) (T := TX5) (N := 16) hx hb hts iw_X5_init_X5 tyX5 tyX5_ok nmX5 hown hK hP hD hS 0 rfl rfl 13 (by decide) (hts (.fieldLink RX5 46 "SoldHouse$Plan" "sure" "LSoldHouse$Formula;") (List.mem_of_getElem? (i := 19) rfl)) (fun _ h9 => h9) rfl hin rfl (by decide +kernel) rfl rfl (Nat.le_of_ble_eq_true rfl) dX5_init_92 (fun H locs hP hD hS => ?_)
  replace hP : va_P D classes [(a0, .inr (5, [.int 0, .ref q_1, .ref q_2, .int 0, .ref q_3, .ref q_4, .int 0, .ref q_5, .ref q_6, .ref q_7, .ref q_8, .ref q_9, .ref q_10, .ref q_11, .int 0, .int 0])), (q_11, .inr (1, [.ref s0__13, .ref s1__14, .ref s2__15, .int 0, .int 0, .int 0]))] H := hP
  replace hD : va_D A [(a0, .inr (5, [.int 0, .ref q_1, .ref q_2, .int 0, .ref q_3, .ref q_4, .int 0, .ref q_5, .ref q_6, .ref q_7, .ref q_8, .ref q_9, .ref q_10, .ref q_11, .int 0, .int 0])), (q_11, .inr (1, [.ref s0__13, .ref s1__14, .ref s2__15, .int 0, .int 0, .int 0]))] := hD
  have hP9 := hP.sub (ws' := [(a0, .inr (5, [.int 0, .ref q_1, .ref q_2, .int 0, .ref q_3, .ref q_4, .int 0, .ref q_5, .ref q_6, .ref q_7, .ref q_8, .ref q_9, .ref q_10, .ref q_11, .int 0, .int 0])), (q_11, .inr (1, [.ref s0__13, .ref s1__14, .ref s2__15, .int 0, .int 0, .int 0]))]) [0, 1] rfl
  have hD9 := hD.sub (ws' := [(a0, .inr (5, [.int 0, .ref q_1, .ref q_2, .int 0, .ref q_3, .ref q_4, .int 0, .ref q_5, .ref q_6, .ref q_7, .ref q_8, .ref q_9, .ref q_10, .ref q_11, .int 0, .int 0])), (q_11, .inr (1, [.ref s0__13, .ref s1__14, .ref s2__15, .int 0, .int 0, .int 0]))]) [0, 1] (by decide) rfl
  refine W.widen (k := 14) (n := 548) (Nat.le_of_ble_eq_true rfl) (Nat.le_of_ble_eq_true rfl) ?_
  exact W.vret hx hb hr (fun t ht hW => ⟨⟨(), rfl, trivial, ⟨(fun k => List.getD [0, q_1, q_2, 0, q_3, q_4, 0, q_5, q_6, q_7, q_8, q_9, q_10] k 0), q_11, s0__13, s1__14, s2__15, by rw [ht]; exact hP9, hD9⟩⟩, hS.F ht⟩) hS.2.2 dX5_init_95
set_option maxHeartbeats 4000000 in
set_option maxRecDepth 100000 in
theorem i_Tape (l : Launch) (D : va_G) (cI : ClassId) (cB : ClassId) (cL : ClassId) (cZ : ClassId) (a0 : Nat) (sz : Nat) : Met l yX8_init wsX8_init ({ frames := 1, cells := 1, slots := 1600, locals := 12 }) (xp D [(cI, .int), (cB, .byte), (cL, .long), (cZ, .boolean)] [(a0, .inr (8, [.null, .int 0]))] sz [] [.ref a0]) (va_Qv (fun _ : Unit => True) (fun (_ : Unit) (t : State) => ∃ (tb : Nat), ∃ (fb : Nat → Int32), xB D (va_A [(a0, .inr (8, [.null, .int 0]))] sz) [(a0, .inr (8, [.ref tb, .int 0])), (tb, .inl (cB, 1600, .inl fb))] t) (va_A [(a0, .inr (8, [.null, .int 0]))] sz)) 1 1600 (va_A [(a0, .inr (8, [.null, .int 0]))] sz) := by
  refine Met.ofW (cc := cX8_init) (maxL := 1) (ret := none) (by decide) rfl ?_
  intro p e s m args below meth c s₁ B hml hv
  obtain ⟨rfl, hsz, hP, hK, hD0, hNw⟩ := hv
  have hx := B.exec
  have hb := B.bytes
  have hr := B.returns
  have hts := atoms_spec (ws := wsX8_init) B.pre
  have hown : s.vm.findClass RX8 = some m.cls := findClass_of_methodNamed B.named
  have hlocks := B.notSynchronized
  have hin : meth.name = "<init>" := (name_of_methodNamed B.named B.method).1
  subst hsz
  have hD := hD0.self (sz := s.heap.size)
  clear hD0
  generalize hAe : va_A [(a0, .inr (8, [.null, .int 0]))] s.heap.size = A at hD ⊢
  have hA : ∀ q : Nat, s.heap.size ≤ q → A q := fun q h => by rw [← hAe]; exact Or.inr h
  have hS : va_S A s.heap s.heap [] := va_S.rf
  clear hAe
  obtain ⟨H, hH⟩ : ∃ H : Heap, H = s.heap := ⟨_, rfl⟩
  obtain ⟨locs, hlocs⟩ : ∃ L : List Loc, L = [] := ⟨_, rfl⟩
  replace hP : va_P D classes [(a0, .inr (8, [.null, .int 0]))] H := by rw [hH]; exact hP
  replace hS : va_S A s.heap H locs := by rw [hH, hlocs]; exact hS
  rw [← hH, ← hlocs]
  clear hlocs hH
  have hl := lv_entry ([.ref a0]) (n := 1) (Nat.le_of_ble_eq_true rfl)
  rw [lg_entry_eq]
  generalize (lg_sl ([.ref a0]) ++ List.replicate (1 - (lg_sl ([.ref a0])).length) Slot.unset).toArray = ls at hl ⊢
  replace hl : lv_has ls 1 [(0, .ref a0)] := hl
  refine lv_aload_n hx hb dX8_init_0 rfl (lv_at hl 0 rfl) ?_
  refine W.objInit hx hb hown (hts (.methodLink RX8 3 objectInit) (List.mem_of_getElem? (i := 1) rfl)) (hts (.instanceMethod objectInit) (List.mem_of_getElem? (i := 2) rfl)) (hts (.code objectInit ⟨#[0xb1]⟩ 1 none) (List.mem_of_getElem? (i := 3) rfl)) rfl (by rw [hml]; exact hl.1) rfl dX8_init_1 (Nat.le_of_ble_eq_true rfl) (Nat.le_of_ble_eq_true rfl) ?_
  refine W.eq (g2 := F0 m 4 ls []) rfl ?_
  refine lv_aload_n hx hb dX8_init_4 rfl (lv_at hl 0 rfl) ?_
  refine lv_sipush (v := 1600) hx hb dX8_init_5 (by decide) ?_
  refine zz_newC (atype := .byte) (a0 := (1600, .inl (fun _ => 0))) (N' := 1600) hx hb (hts (.arrayClass .byte) (List.mem_of_getElem? (i := 4) rfl)) rfl hK hP hD hS hA (fun _ => rfl) (by decide) (by decide) (Nat.le_of_ble_eq_true rfl) (Nat.le_of_ble_eq_true rfl) (Nat.le_of_ble_eq_true rfl) dX8_init_8 1 rfl (fun _ h9 => h9) (fun q_1 H hP hD hS => ?_)
  replace hP : va_P D classes [(a0, .inr (8, [.null, .int 0])), (q_1, .inl (cB, 1600, .inl (fun _ => 0)))] H := hP
  replace hD : va_D A [(a0, .inr (8, [.null, .int 0])), (q_1, .inl (cB, 1600, .inl (fun _ => 0)))] := hD
  refine va_putF (D := D) (ci := 8) (v := .ref q_1) (ty := tyX8 0) (C := RX8) (T := TX8) (N := 2) hx hb hts iw_X8_init_X8 tyX8 tyX8_ok nmX8 hown hK hP hD hS 0 rfl rfl 0 (by decide) (hts (.fieldLink RX8 9 "SoldHouse$Tape" "bytes" "[B") (List.mem_of_getElem? (i := 5) rfl)) (fun _ h9 => h9) rfl hin rfl (by decide +kernel) rfl rfl (Nat.le_of_ble_eq_true rfl) dX8_init_10 (fun H locs hP hD hS => ?_)
  replace hP : va_P D classes [(a0, .inr (8, [.ref q_1, .int 0])), (q_1, .inl (cB, 1600, .inl (fun _ => 0)))] H := hP
  replace hD : va_D A [(a0, .inr (8, [.ref q_1, .int 0])), (q_1, .inl (cB, 1600, .inl (fun _ => 0)))] := hD
  have hP9 := hP.sub (ws' := [(a0, .inr (8, [.ref q_1, .int 0])), (q_1, .inl (cB, 1600, .inl (fun _ => 0)))]) [0, 1] rfl
  have hD9 := hD.sub (ws' := [(a0, .inr (8, [.ref q_1, .int 0])), (q_1, .inl (cB, 1600, .inl (fun _ => 0)))]) [0, 1] (by decide) rfl
  refine W.widen (k := 1) (n := 1600) (Nat.le_of_ble_eq_true rfl) (Nat.le_of_ble_eq_true rfl) ?_
  exact W.vret hx hb hr (fun t ht hW => ⟨⟨(), rfl, trivial, ⟨q_1, (fun _ => 0), by rw [ht]; exact hP9, hD9⟩⟩, hS.F ht⟩) hS.2.2 dX8_init_13
set_option maxHeartbeats 4000000 in
set_option maxRecDepth 100000 in
theorem i_Floor (l : Launch) (D : va_G) (cI : ClassId) (cB : ClassId) (cL : ClassId) (cZ : ClassId) (a0 : Nat) (aP : Nat) (sz : Nat) : Met l yX0_init wsX0_init ({ frames := 1, cells := 3, slots := 84, locals := 12 }) (xp D [(cI, .int), (cB, .byte), (cL, .long), (cZ, .boolean)] [(a0, .inr (0, [.null, .null, .null, .null, .int 0]))] sz [] [.ref a0, .ref aP]) (va_Qv (fun _ : Unit => True) (fun (_ : Unit) (t : State) => ∃ (fx : Nat), ∃ (fr : Nat), ∃ (fe : Nat), ∃ (fxf : Nat → Int32), ∃ (frf : Nat → Int32), xB D (va_A [(a0, .inr (0, [.null, .null, .null, .null, .int 0]))] sz) [(a0, .inr (0, [.ref aP, .ref fx, .ref fr, .ref fe, .int 0])), (fx, .inl (cI, 8, .inl fxf)), (fr, .inl (cI, 64, .inl frf))] t) (va_A [(a0, .inr (0, [.null, .null, .null, .null, .int 0]))] sz)) 3 84 (va_A [(a0, .inr (0, [.null, .null, .null, .null, .int 0]))] sz) := by
  refine Met.ofW (cc := cX0_init) (maxL := 2) (ret := none) (by decide) rfl ?_
  intro p e s m args below meth c s₁ B hml hv
  obtain ⟨rfl, hsz, hP, hK, hD0, hNw⟩ := hv
  have hx := B.exec
  have hb := B.bytes
  have hr := B.returns
  have hts := atoms_spec (ws := wsX0_init) B.pre
  have hown : s.vm.findClass RX0 = some m.cls := findClass_of_methodNamed B.named
  have hlocks := B.notSynchronized
  have hin : meth.name = "<init>" := (name_of_methodNamed B.named B.method).1
  subst hsz
  have hD := hD0.self (sz := s.heap.size)
  clear hD0
  generalize hAe : va_A [(a0, .inr (0, [.null, .null, .null, .null, .int 0]))] s.heap.size = A at hD ⊢
  have hA : ∀ q : Nat, s.heap.size ≤ q → A q := fun q h => by rw [← hAe]; exact Or.inr h
  have hS : va_S A s.heap s.heap [] := va_S.rf
  clear hAe
  obtain ⟨H, hH⟩ : ∃ H : Heap, H = s.heap := ⟨_, rfl⟩
  obtain ⟨locs, hlocs⟩ : ∃ L : List Loc, L = [] := ⟨_, rfl⟩
  replace hP : va_P D classes [(a0, .inr (0, [.null, .null, .null, .null, .int 0]))] H := by rw [hH]; exact hP
  replace hS : va_S A s.heap H locs := by rw [hH, hlocs]; exact hS
  rw [← hH, ← hlocs]
  clear hlocs hH
  have hl := lv_entry ([.ref a0, .ref aP]) (n := 2) (Nat.le_of_ble_eq_true rfl)
  rw [lg_entry_eq]
  generalize (lg_sl ([.ref a0, .ref aP]) ++ List.replicate (2 - (lg_sl ([.ref a0, .ref aP])).length) Slot.unset).toArray = ls at hl ⊢
  replace hl : lv_has ls 2 [(0, .ref a0), (1, .ref aP)] := hl
  refine lv_aload_n hx hb dX0_init_0 rfl (lv_at hl 0 rfl) ?_
  refine W.objInit hx hb hown (hts (.methodLink RX0 3 objectInit) (List.mem_of_getElem? (i := 1) rfl)) (hts (.instanceMethod objectInit) (List.mem_of_getElem? (i := 2) rfl)) (hts (.code objectInit ⟨#[0xb1]⟩ 1 none) (List.mem_of_getElem? (i := 3) rfl)) rfl (by rw [hml]; exact hl.1) rfl dX0_init_1 (Nat.le_of_ble_eq_true rfl) (Nat.le_of_ble_eq_true rfl) ?_
  refine W.eq (g2 := F0 m 4 ls []) rfl ?_
  refine lv_aload_n hx hb dX0_init_4 rfl (lv_at hl 0 rfl) ?_
  refine lv_bipush (v := 8) hx hb dX0_init_5 (by decide) ?_
  refine zz_newC (atype := .int) (a0 := (8, .inl (fun _ => 0))) (N' := 8) hx hb (hts (.arrayClass .int) (List.mem_of_getElem? (i := 4) rfl)) rfl hK hP hD hS hA (fun _ => rfl) (by decide) (by decide) (Nat.le_of_ble_eq_true rfl) (Nat.le_of_ble_eq_true rfl) (Nat.le_of_ble_eq_true rfl) dX0_init_7 0 rfl (fun _ h9 => h9) (fun q_1 H hP hD hS => ?_)
  replace hP : va_P D classes [(a0, .inr (0, [.null, .null, .null, .null, .int 0])), (q_1, .inl (cI, 8, .inl (fun _ => 0)))] H := hP
  replace hD : va_D A [(a0, .inr (0, [.null, .null, .null, .null, .int 0])), (q_1, .inl (cI, 8, .inl (fun _ => 0)))] := hD
  refine va_putF (D := D) (ci := 0) (v := .ref q_1) (ty := tyX0 1) (C := RX0) (T := TX0) (N := 5) hx hb hts iw_X0_init_X0 tyX0 tyX0_ok nmX0 hown hK hP hD hS 0 rfl rfl 1 (by decide) (hts (.fieldLink RX0 9 "SoldHouse$Floor" "next" "[I") (List.mem_of_getElem? (i := 5) rfl)) (fun _ h9 => h9) rfl hin rfl (by decide +kernel) rfl rfl (Nat.le_of_ble_eq_true rfl) dX0_init_9 (fun H locs hP hD hS => ?_)
  replace hP : va_P D classes [(a0, .inr (0, [.null, .ref q_1, .null, .null, .int 0])), (q_1, .inl (cI, 8, .inl (fun _ => 0)))] H := hP
  replace hD : va_D A [(a0, .inr (0, [.null, .ref q_1, .null, .null, .int 0])), (q_1, .inl (cI, 8, .inl (fun _ => 0)))] := hD
  refine lv_aload_n hx hb dX0_init_12 rfl (lv_at hl 0 rfl) ?_
  refine lv_bipush (v := 64) hx hb dX0_init_13 (by decide) ?_
  refine zz_newC (atype := .int) (a0 := (64, .inl (fun _ => 0))) (N' := 64) hx hb (hts (.arrayClass .int) (List.mem_of_getElem? (i := 4) rfl)) rfl hK hP hD hS hA (fun _ => rfl) (by decide) (by decide) (Nat.le_of_ble_eq_true rfl) (Nat.le_of_ble_eq_true rfl) (Nat.le_of_ble_eq_true rfl) dX0_init_15 0 rfl (fun _ h9 => h9) (fun q_2 H hP hD hS => ?_)
  replace hP : va_P D classes [(a0, .inr (0, [.null, .ref q_1, .null, .null, .int 0])), (q_1, .inl (cI, 8, .inl (fun _ => 0))), (q_2, .inl (cI, 64, .inl (fun _ => 0)))] H := hP
  replace hD : va_D A [(a0, .inr (0, [.null, .ref q_1, .null, .null, .int 0])), (q_1, .inl (cI, 8, .inl (fun _ => 0))), (q_2, .inl (cI, 64, .inl (fun _ => 0)))] := hD
  refine va_putF (D := D) (ci := 0) (v := .ref q_2) (ty := tyX0 2) (C := RX0) (T := TX0) (N := 5) hx hb hts iw_X0_init_X0 tyX0 tyX0_ok nmX0 hown hK hP hD hS 0 rfl rfl 2 (by decide) (hts (.fieldLink RX0 15 "SoldHouse$Floor" "far" "[I") (List.mem_of_getElem? (i := 6) rfl)) (fun _ h9 => h9) rfl hin rfl (by decide +kernel) rfl rfl (Nat.le_of_ble_eq_true rfl) dX0_init_17 (fun H locs hP hD hS => ?_)
  replace hP : va_P D classes [(a0, .inr (0, [.null, .ref q_1, .ref q_2, .null, .int 0])), (q_1, .inl (cI, 8, .inl (fun _ => 0))), (q_2, .inl (cI, 64, .inl (fun _ => 0)))] H := hP
  replace hD : va_D A [(a0, .inr (0, [.null, .ref q_1, .ref q_2, .null, .int 0])), (q_1, .inl (cI, 8, .inl (fun _ => 0))), (q_2, .inl (cI, 64, .inl (fun _ => 0)))] := hD
  refine lv_aload_n hx hb dX0_init_20 rfl (lv_at hl 0 rfl) ?_
  refine lv_bipush (v := 12) hx hb dX0_init_21 (by decide) ?_
  refine zz_newD (atype := .int) (a0 := (12, .inl (fun _ => 0))) (N' := 12) hx hb (hts (.arrayClass .int) (List.mem_of_getElem? (i := 4) rfl)) rfl hK hP hD hS hA (fun _ => rfl) (by decide) (by decide) (Nat.le_of_ble_eq_true rfl) (Nat.le_of_ble_eq_true rfl) (Nat.le_of_ble_eq_true rfl) dX0_init_23 (fun q_3 H hP hD hS => ?_)
  refine va_putF (D := D) (ci := 0) (v := .ref q_3) (ty := tyX0 3) (C := RX0) (T := TX0) (N := 5) hx hb hts iw_X0_init_X0 tyX0 tyX0_ok nmX0 hown hK hP hD hS 0 rfl rfl 3 (by decide) (hts (.fieldLink RX0 18 "SoldHouse$Floor" "near" "[I") (List.mem_of_getElem? (i := 7) rfl)) (fun _ h9 => h9) rfl hin rfl (by decide +kernel) rfl rfl (Nat.le_of_ble_eq_true rfl) dX0_init_25 (fun H locs hP hD hS => ?_)
  replace hP : va_P D classes [(a0, .inr (0, [.null, .ref q_1, .ref q_2, .ref q_3, .int 0])), (q_1, .inl (cI, 8, .inl (fun _ => 0))), (q_2, .inl (cI, 64, .inl (fun _ => 0)))] H := hP
  replace hD : va_D A [(a0, .inr (0, [.null, .ref q_1, .ref q_2, .ref q_3, .int 0])), (q_1, .inl (cI, 8, .inl (fun _ => 0))), (q_2, .inl (cI, 64, .inl (fun _ => 0)))] := hD
  refine lv_aload_n hx hb dX0_init_28 rfl (lv_at hl 0 rfl) ?_
  refine lv_aload_n hx hb dX0_init_29 rfl (lv_at hl 1 rfl) ?_
  refine va_put (D := D) (ci := 0) (v := .ref aP) (ty := tyX0 0) (C := RX0) (T := TX0) (N := 5) hx hb hts iw_X0_init_X0 tyX0 tyX0_ok nmX0 hown hK hP hD hS 0 rfl rfl 0 (by decide) (hts (.fieldLink RX0 21 "SoldHouse$Floor" "plan" "LSoldHouse$Plan;") (List.mem_of_getElem? (i := 8) rfl)) (fun _ h9 => h9) rfl (by decide +kernel) rfl rfl (Nat.le_of_ble_eq_true rfl) dX0_init_30 (fun H locs hP hD hS => ?_)
  replace hP : va_P D classes [(a0, .inr (0, [.ref aP, .ref q_1, .ref q_2, .ref q_3, .int 0])), (q_1, .inl (cI, 8, .inl (fun _ => 0))), (q_2, .inl (cI, 64, .inl (fun _ => 0)))] H := hP
  replace hD : va_D A [(a0, .inr (0, [.ref aP, .ref q_1, .ref q_2, .ref q_3, .int 0])), (q_1, .inl (cI, 8, .inl (fun _ => 0))), (q_2, .inl (cI, 64, .inl (fun _ => 0)))] := hD
  have hP9 := hP.sub (ws' := [(a0, .inr (0, [.ref aP, .ref q_1, .ref q_2, .ref q_3, .int 0])), (q_1, .inl (cI, 8, .inl (fun _ => 0))), (q_2, .inl (cI, 64, .inl (fun _ => 0)))]) [0, 1, 2] rfl
  have hD9 := hD.sub (ws' := [(a0, .inr (0, [.ref aP, .ref q_1, .ref q_2, .ref q_3, .int 0])), (q_1, .inl (cI, 8, .inl (fun _ => 0))), (q_2, .inl (cI, 64, .inl (fun _ => 0)))]) [0, 1, 2] (by decide) rfl
  refine W.widen (k := 3) (n := 84) (Nat.le_of_ble_eq_true rfl) (Nat.le_of_ble_eq_true rfl) ?_
  exact W.vret hx hb hr (fun t ht hW => ⟨⟨(), rfl, trivial, ⟨q_1, q_2, q_3, (fun _ => 0), (fun _ => 0), by rw [ht]; exact hP9, hD9⟩⟩, hS.F ht⟩) hS.2.2 dX0_init_33
set_option maxHeartbeats 4000000 in
set_option maxRecDepth 100000 in
theorem i_Routes (l : Launch) (D : va_G) (cI : ClassId) (cB : ClassId) (cL : ClassId) (cZ : ClassId) (a0 : Nat) (aF : Nat) (sz : Nat) : Met l yX7_init wsX7_init ({ frames := 1, cells := 3, slots := 2064, locals := 12 }) (xp D [(cI, .int), (cB, .byte), (cL, .long), (cZ, .boolean)] [(a0, .inr (7, [.null, .null, .int 0, .null, .null]))] sz [] [.ref a0, .ref aF]) (va_Qv (fun _ : Unit => True) (fun (_ : Unit) (t : State) => ∃ (ul : Nat), ∃ (uc : Nat), ∃ (ue : Nat), xB D (va_A [(a0, .inr (7, [.null, .null, .int 0, .null, .null]))] sz) [(a0, .inr (7, [.ref aF, .ref ul, .int 0, .ref uc, .ref ue]))] t) (va_A [(a0, .inr (7, [.null, .null, .int 0, .null, .null]))] sz)) 3 2064 (va_A [(a0, .inr (7, [.null, .null, .int 0, .null, .null]))] sz) := by
  refine Met.ofW (cc := cX7_init) (maxL := 2) (ret := none) (by decide) rfl ?_
  intro p e s m args below meth c s₁ B hml hv
  obtain ⟨rfl, hsz, hP, hK, hD0, hNw⟩ := hv
  have hx := B.exec
  have hb := B.bytes
  have hr := B.returns
  have hts := atoms_spec (ws := wsX7_init) B.pre
  have hown : s.vm.findClass RX7 = some m.cls := findClass_of_methodNamed B.named
  have hlocks := B.notSynchronized
  have hin : meth.name = "<init>" := (name_of_methodNamed B.named B.method).1
  subst hsz
  have hD := hD0.self (sz := s.heap.size)
  clear hD0
  generalize hAe : va_A [(a0, .inr (7, [.null, .null, .int 0, .null, .null]))] s.heap.size = A at hD ⊢
  have hA : ∀ q : Nat, s.heap.size ≤ q → A q := fun q h => by rw [← hAe]; exact Or.inr h
  have hS : va_S A s.heap s.heap [] := va_S.rf
  clear hAe
  obtain ⟨H, hH⟩ : ∃ H : Heap, H = s.heap := ⟨_, rfl⟩
  obtain ⟨locs, hlocs⟩ : ∃ L : List Loc, L = [] := ⟨_, rfl⟩
  replace hP : va_P D classes [(a0, .inr (7, [.null, .null, .int 0, .null, .null]))] H := by rw [hH]; exact hP
  replace hS : va_S A s.heap H locs := by rw [hH, hlocs]; exact hS
  rw [← hH, ← hlocs]
  clear hlocs hH
  have hl := lv_entry ([.ref a0, .ref aF]) (n := 2) (Nat.le_of_ble_eq_true rfl)
  rw [lg_entry_eq]
  generalize (lg_sl ([.ref a0, .ref aF]) ++ List.replicate (2 - (lg_sl ([.ref a0, .ref aF])).length) Slot.unset).toArray = ls at hl ⊢
  replace hl : lv_has ls 2 [(0, .ref a0), (1, .ref aF)] := hl
  refine lv_aload_n hx hb dX7_init_0 rfl (lv_at hl 0 rfl) ?_
  refine W.objInit hx hb hown (hts (.methodLink RX7 3 objectInit) (List.mem_of_getElem? (i := 1) rfl)) (hts (.instanceMethod objectInit) (List.mem_of_getElem? (i := 2) rfl)) (hts (.code objectInit ⟨#[0xb1]⟩ 1 none) (List.mem_of_getElem? (i := 3) rfl)) rfl (by rw [hml]; exact hl.1) rfl dX7_init_1 (Nat.le_of_ble_eq_true rfl) (Nat.le_of_ble_eq_true rfl) ?_
  refine W.eq (g2 := F0 m 4 ls []) rfl ?_
  refine lv_aload_n hx hb dX7_init_4 rfl (lv_at hl 0 rfl) ?_
  refine lv_bipush (v := 8) hx hb dX7_init_5 (by decide) ?_
  refine zz_newD (atype := .int) (a0 := (8, .inl (fun _ => 0))) (N' := 8) hx hb (hts (.arrayClass .int) (List.mem_of_getElem? (i := 4) rfl)) rfl hK hP hD hS hA (fun _ => rfl) (by decide) (by decide) (Nat.le_of_ble_eq_true rfl) (Nat.le_of_ble_eq_true rfl) (Nat.le_of_ble_eq_true rfl) dX7_init_7 (fun q_1 H hP hD hS => ?_)
  refine va_putF (D := D) (ci := 7) (v := .ref q_1) (ty := tyX7 1) (C := RX7) (T := TX7) (N := 5) hx hb hts iw_X7_init_X7 tyX7 tyX7_ok nmX7 hown hK hP hD hS 0 rfl rfl 1 (by decide) (hts (.fieldLink RX7 9 "SoldHouse$Routes" "lie" "[I") (List.mem_of_getElem? (i := 5) rfl)) (fun _ h9 => h9) rfl hin rfl (by decide +kernel) rfl rfl (Nat.le_of_ble_eq_true rfl) dX7_init_9 (fun H locs hP hD hS => ?_)
  replace hP : va_P D classes [(a0, .inr (7, [.null, .ref q_1, .int 0, .null, .null]))] H := hP
  replace hD : va_D A [(a0, .inr (7, [.null, .ref q_1, .int 0, .null, .null]))] := hD
  refine lv_aload_n hx hb dX7_init_12 rfl (lv_at hl 0 rfl) ?_
  refine lv_bipush (v := 8) hx hb dX7_init_13 (by decide) ?_
  refine zz_newD (atype := .int) (a0 := (8, .inl (fun _ => 0))) (N' := 8) hx hb (hts (.arrayClass .int) (List.mem_of_getElem? (i := 4) rfl)) rfl hK hP hD hS hA (fun _ => rfl) (by decide) (by decide) (Nat.le_of_ble_eq_true rfl) (Nat.le_of_ble_eq_true rfl) (Nat.le_of_ble_eq_true rfl) dX7_init_15 (fun q_2 H hP hD hS => ?_)
  refine va_putF (D := D) (ci := 7) (v := .ref q_2) (ty := tyX7 3) (C := RX7) (T := TX7) (N := 5) hx hb hts iw_X7_init_X7 tyX7 tyX7_ok nmX7 hown hK hP hD hS 0 rfl rfl 3 (by decide) (hts (.fieldLink RX7 15 "SoldHouse$Routes" "cost" "[I") (List.mem_of_getElem? (i := 6) rfl)) (fun _ h9 => h9) rfl hin rfl (by decide +kernel) rfl rfl (Nat.le_of_ble_eq_true rfl) dX7_init_17 (fun H locs hP hD hS => ?_)
  replace hP : va_P D classes [(a0, .inr (7, [.null, .ref q_1, .int 0, .ref q_2, .null]))] H := hP
  replace hD : va_D A [(a0, .inr (7, [.null, .ref q_1, .int 0, .ref q_2, .null]))] := hD
  refine lv_aload_n hx hb dX7_init_20 rfl (lv_at hl 0 rfl) ?_
  refine lv_sipush (v := 2048) hx hb dX7_init_21 (by decide) ?_
  refine zz_newD (atype := .int) (a0 := (2048, .inl (fun _ => 0))) (N' := 2048) hx hb (hts (.arrayClass .int) (List.mem_of_getElem? (i := 4) rfl)) rfl hK hP hD hS hA (fun _ => rfl) (by decide) (by decide) (Nat.le_of_ble_eq_true rfl) (Nat.le_of_ble_eq_true rfl) (Nat.le_of_ble_eq_true rfl) dX7_init_24 (fun q_3 H hP hD hS => ?_)
  refine va_putF (D := D) (ci := 7) (v := .ref q_3) (ty := tyX7 4) (C := RX7) (T := TX7) (N := 5) hx hb hts iw_X7_init_X7 tyX7 tyX7_ok nmX7 hown hK hP hD hS 0 rfl rfl 4 (by decide) (hts (.fieldLink RX7 18 "SoldHouse$Routes" "rest" "[I") (List.mem_of_getElem? (i := 7) rfl)) (fun _ h9 => h9) rfl hin rfl (by decide +kernel) rfl rfl (Nat.le_of_ble_eq_true rfl) dX7_init_26 (fun H locs hP hD hS => ?_)
  replace hP : va_P D classes [(a0, .inr (7, [.null, .ref q_1, .int 0, .ref q_2, .ref q_3]))] H := hP
  replace hD : va_D A [(a0, .inr (7, [.null, .ref q_1, .int 0, .ref q_2, .ref q_3]))] := hD
  refine lv_aload_n hx hb dX7_init_29 rfl (lv_at hl 0 rfl) ?_
  refine lv_aload_n hx hb dX7_init_30 rfl (lv_at hl 1 rfl) ?_
  refine va_putF (D := D) (ci := 7) (v := .ref aF) (ty := tyX7 0) (C := RX7) (T := TX7) (N := 5) hx hb hts iw_X7_init_X7 tyX7 tyX7_ok nmX7 hown hK hP hD hS 0 rfl rfl 0 (by decide) (hts (.fieldLink RX7 21 "SoldHouse$Routes" "floor" "LSoldHouse$Floor;") (List.mem_of_getElem? (i := 8) rfl)) (fun _ h9 => h9) rfl hin rfl (by decide +kernel) rfl rfl (Nat.le_of_ble_eq_true rfl) dX7_init_31 (fun H locs hP hD hS => ?_)
  replace hP : va_P D classes [(a0, .inr (7, [.ref aF, .ref q_1, .int 0, .ref q_2, .ref q_3]))] H := hP
  replace hD : va_D A [(a0, .inr (7, [.ref aF, .ref q_1, .int 0, .ref q_2, .ref q_3]))] := hD
  have hP9 := hP.sub (ws' := [(a0, .inr (7, [.ref aF, .ref q_1, .int 0, .ref q_2, .ref q_3]))]) [0] rfl
  have hD9 := hD.sub (ws' := [(a0, .inr (7, [.ref aF, .ref q_1, .int 0, .ref q_2, .ref q_3]))]) [0] (by decide) rfl
  refine W.widen (k := 3) (n := 2064) (Nat.le_of_ble_eq_true rfl) (Nat.le_of_ble_eq_true rfl) ?_
  exact W.vret hx hb hr (fun t ht hW => ⟨⟨(), rfl, trivial, ⟨q_1, q_2, q_3, by rw [ht]; exact hP9, hD9⟩⟩, hS.F ht⟩) hS.2.2 dX7_init_34
set_option maxHeartbeats 4000000 in
set_option maxRecDepth 100000 in
theorem i_Hunter (l : Launch) (D : va_G) (cI : ClassId) (cB : ClassId) (cL : ClassId) (cZ : ClassId) (a0 : Nat) (aF : Nat) (sz : Nat) : Met l yX2_init wsX2_init ({ frames := 1, cells := 1, slots := 256, locals := 12 }) (xp D [(cI, .int), (cB, .byte), (cL, .long), (cZ, .boolean)] [(a0, .inr (2, [.null, .null]))] sz [] [.ref a0, .ref aF]) (va_Qv (fun _ : Unit => True) (fun (_ : Unit) (_ : State) => True) (va_A [(a0, .inr (2, [.null, .null]))] sz)) 1 256 (va_A [(a0, .inr (2, [.null, .null]))] sz) := by
  refine Met.ofW (cc := cX2_init) (maxL := 2) (ret := none) (by decide) rfl ?_
  intro p e s m args below meth c s₁ B hml hv
  obtain ⟨rfl, hsz, hP, hK, hD0, hNw⟩ := hv
  have hx := B.exec
  have hb := B.bytes
  have hr := B.returns
  have hts := atoms_spec (ws := wsX2_init) B.pre
  have hown : s.vm.findClass RX2 = some m.cls := findClass_of_methodNamed B.named
  have hlocks := B.notSynchronized
  have hin : meth.name = "<init>" := (name_of_methodNamed B.named B.method).1
  subst hsz
  have hD := hD0.self (sz := s.heap.size)
  clear hD0
  generalize hAe : va_A [(a0, .inr (2, [.null, .null]))] s.heap.size = A at hD ⊢
  have hA : ∀ q : Nat, s.heap.size ≤ q → A q := fun q h => by rw [← hAe]; exact Or.inr h
  have hS : va_S A s.heap s.heap [] := va_S.rf
  clear hAe
  obtain ⟨H, hH⟩ : ∃ H : Heap, H = s.heap := ⟨_, rfl⟩
  obtain ⟨locs, hlocs⟩ : ∃ L : List Loc, L = [] := ⟨_, rfl⟩
  replace hP : va_P D classes [(a0, .inr (2, [.null, .null]))] H := by rw [hH]; exact hP
  replace hS : va_S A s.heap H locs := by rw [hH, hlocs]; exact hS
  rw [← hH, ← hlocs]
  clear hlocs hH
  have hl := lv_entry ([.ref a0, .ref aF]) (n := 2) (Nat.le_of_ble_eq_true rfl)
  rw [lg_entry_eq]
  generalize (lg_sl ([.ref a0, .ref aF]) ++ List.replicate (2 - (lg_sl ([.ref a0, .ref aF])).length) Slot.unset).toArray = ls at hl ⊢
  replace hl : lv_has ls 2 [(0, .ref a0), (1, .ref aF)] := hl
  refine lv_aload_n hx hb dX2_init_0 rfl (lv_at hl 0 rfl) ?_
  refine W.objInit hx hb hown (hts (.methodLink RX2 3 objectInit) (List.mem_of_getElem? (i := 1) rfl)) (hts (.instanceMethod objectInit) (List.mem_of_getElem? (i := 2) rfl)) (hts (.code objectInit ⟨#[0xb1]⟩ 1 none) (List.mem_of_getElem? (i := 3) rfl)) rfl (by rw [hml]; exact hl.1) rfl dX2_init_1 (Nat.le_of_ble_eq_true rfl) (Nat.le_of_ble_eq_true rfl) ?_
  refine W.eq (g2 := F0 m 4 ls []) rfl ?_
  refine lv_aload_n hx hb dX2_init_4 rfl (lv_at hl 0 rfl) ?_
  refine lv_sipush (v := 256) hx hb dX2_init_5 (by decide) ?_
  refine zz_newD (atype := .int) (a0 := (256, .inl (fun _ => 0))) (N' := 256) hx hb (hts (.arrayClass .int) (List.mem_of_getElem? (i := 4) rfl)) rfl hK hP hD hS hA (fun _ => rfl) (by decide) (by decide) (Nat.le_of_ble_eq_true rfl) (Nat.le_of_ble_eq_true rfl) (Nat.le_of_ble_eq_true rfl) dX2_init_8 (fun q_1 H hP hD hS => ?_)
  refine va_putF (D := D) (ci := 2) (v := .ref q_1) (ty := tyX2 1) (C := RX2) (T := TX2) (N := 2) hx hb hts iw_X2_init_X2 tyX2 tyX2_ok nmX2 hown hK hP hD hS 0 rfl rfl 1 (by decide) (hts (.fieldLink RX2 9 "SoldHouse$Hunter" "asks" "[I") (List.mem_of_getElem? (i := 5) rfl)) (fun _ h9 => h9) rfl hin rfl (by decide +kernel) rfl rfl (Nat.le_of_ble_eq_true rfl) dX2_init_10 (fun H locs hP hD hS => ?_)
  replace hP : va_P D classes [(a0, .inr (2, [.null, .ref q_1]))] H := hP
  replace hD : va_D A [(a0, .inr (2, [.null, .ref q_1]))] := hD
  refine lv_aload_n hx hb dX2_init_13 rfl (lv_at hl 0 rfl) ?_
  refine lv_aload_n hx hb dX2_init_14 rfl (lv_at hl 1 rfl) ?_
  refine va_putF (D := D) (ci := 2) (v := .ref aF) (ty := tyX2 0) (C := RX2) (T := TX2) (N := 2) hx hb hts iw_X2_init_X2 tyX2 tyX2_ok nmX2 hown hK hP hD hS 0 rfl rfl 0 (by decide) (hts (.fieldLink RX2 15 "SoldHouse$Hunter" "floor" "LSoldHouse$Floor;") (List.mem_of_getElem? (i := 6) rfl)) (fun _ h9 => h9) rfl hin rfl (by decide +kernel) rfl rfl (Nat.le_of_ble_eq_true rfl) dX2_init_15 (fun H locs hP hD hS => ?_)
  replace hP : va_P D classes [(a0, .inr (2, [.ref aF, .ref q_1]))] H := hP
  replace hD : va_D A [(a0, .inr (2, [.ref aF, .ref q_1]))] := hD
  refine W.widen (k := 1) (n := 256) (Nat.le_of_ble_eq_true rfl) (Nat.le_of_ble_eq_true rfl) ?_
  exact W.vret hx hb hr (fun t ht hW => ⟨⟨(), rfl, trivial, trivial⟩, hS.F ht⟩) hS.2.2 dX2_init_18
set_option maxHeartbeats 4000000 in
set_option maxRecDepth 100000 in
theorem i_Memory (l : Launch) (D : va_G) (cI : ClassId) (cB : ClassId) (cL : ClassId) (cZ : ClassId) (a0 : Nat) (aF : Nat) (sz : Nat) : Met l yX3_init wsX3_init ({ frames := 1, cells := 49, slots := 1519, locals := 12 }) (xpA D [(cI, .int), (cB, .byte), (cL, .long), (cZ, .boolean)] [(a0, .inr (3, [.null, .null, .null, .null, .int 0, .int 0, .int 0, .null, .null]))] sz [] [.ref a0, .ref aF]) (va_Qv (fun _ : Unit => True) (fun (_ : Unit) (t : State) => ∃ (cG : ClassId), va_K D classes [(cI, .int), (cB, .byte), (cL, .long), (cZ, .boolean), (cG, .array .int)] t ∧ (∃ (mo : Nat), ∃ (ma : Nat), ∃ (mk : Nat), ∃ (mb : Nat), ∃ (mf : Nat), ∃ (r0 : Nat), ∃ (r1 : Nat), ∃ (b0 : Nat), ∃ (b1 : Nat), ∃ (b2 : Nat), ∃ (fn : Nat → Int32), ∃ (w0 : Nat → Int32), ∃ (w1 : Nat → Int32), ∃ (u0 : Nat → Int32), ∃ (u1 : Nat → Int32), ∃ (u2 : Nat → Int32), ∃ (ff : Nat → Int32), ∃ (kr : Nat → Option Nat), ∃ (br : Nat → Option Nat), kr 0 = some r0 ∧ kr 1 = some r1 ∧ br 0 = some b0 ∧ br 1 = some b1 ∧ br 2 = some b2 ∧ xB D (va_A [(a0, .inr (3, [.null, .null, .null, .null, .int 0, .int 0, .int 0, .null, .null]))] sz) [(a0, .inr (3, [.ref aF, .ref mo, .ref ma, .ref mk, .int 0, .int 0, .int 0, .ref mb, .ref mf])), (mo, .inl (cI, 32, .inl fn)), (mk, .inl (cG, 41, .inr (.inr (.inr (.inr kr))))), (r0, .inl (cI, 32, .inl w0)), (r1, .inl (cI, 32, .inl w1)), (mb, .inl (cG, 3, .inr (.inr (.inr (.inr br))))), (b0, .inl (cI, 32, .inl u0)), (b1, .inl (cI, 32, .inl u1)), (b2, .inl (cI, 32, .inl u2)), (mf, .inl (cZ, 3, .inl ff))] t)) (va_A [(a0, .inr (3, [.null, .null, .null, .null, .int 0, .int 0, .int 0, .null, .null]))] sz)) 49 1519 (va_A [(a0, .inr (3, [.null, .null, .null, .null, .int 0, .int 0, .int 0, .null, .null]))] sz) := by
  refine Met.ofW (cc := cX3_init) (maxL := 2) (ret := none) (by decide) rfl ?_
  intro p e s m args below meth c s₁ B hml hv
  obtain ⟨rfl, hsz, hP, hK, hD0, hNw, hAO⟩ := hv
  have hx := B.exec
  have hb := B.bytes
  have hr := B.returns
  have hts := atoms_spec (ws := wsX3_init) B.pre
  have hown : s.vm.findClass RX3 = some m.cls := findClass_of_methodNamed B.named
  have hlocks := B.notSynchronized
  have hin : meth.name = "<init>" := (name_of_methodNamed B.named B.method).1
  subst hsz
  have hD := hD0.self (sz := s.heap.size)
  clear hD0
  generalize hAe : va_A [(a0, .inr (3, [.null, .null, .null, .null, .int 0, .int 0, .int 0, .null, .null]))] s.heap.size = A at hD ⊢
  have hA : ∀ q : Nat, s.heap.size ≤ q → A q := fun q h => by rw [← hAe]; exact Or.inr h
  have hS : va_S A s.heap s.heap [] := va_S.rf
  clear hAe
  obtain ⟨H, hH⟩ : ∃ H : Heap, H = s.heap := ⟨_, rfl⟩
  obtain ⟨locs, hlocs⟩ : ∃ L : List Loc, L = [] := ⟨_, rfl⟩
  replace hP : va_P D classes [(a0, .inr (3, [.null, .null, .null, .null, .int 0, .int 0, .int 0, .null, .null]))] H := by rw [hH]; exact hP
  replace hS : va_S A s.heap H locs := by rw [hH, hlocs]; exact hS
  rw [← hH, ← hlocs]
  clear hlocs hH
  have hl := lv_entry ([.ref a0, .ref aF]) (n := 2) (Nat.le_of_ble_eq_true rfl)
  rw [lg_entry_eq]
  generalize (lg_sl ([.ref a0, .ref aF]) ++ List.replicate (2 - (lg_sl ([.ref a0, .ref aF])).length) Slot.unset).toArray = ls at hl ⊢
  replace hl : lv_has ls 2 [(0, .ref a0), (1, .ref aF)] := hl
  refine lv_aload_n hx hb dX3_init_0 rfl (lv_at hl 0 rfl) ?_
  refine W.objInit hx hb hown (hts (.methodLink RX3 5 objectInit) (List.mem_of_getElem? (i := 1) rfl)) (hts (.instanceMethod objectInit) (List.mem_of_getElem? (i := 2) rfl)) (hts (.code objectInit ⟨#[0xb1]⟩ 1 none) (List.mem_of_getElem? (i := 3) rfl)) rfl (by rw [hml]; exact hl.1) rfl dX3_init_1 (Nat.le_of_ble_eq_true rfl) (Nat.le_of_ble_eq_true rfl) ?_
  refine W.eq (g2 := F0 m 4 ls []) rfl ?_
  refine lv_aload_n hx hb dX3_init_4 rfl (lv_at hl 0 rfl) ?_
  refine lv_bipush (v := 32) hx hb dX3_init_5 (by decide) ?_
  refine zz_newC (atype := .int) (a0 := (32, .inl (fun _ => 0))) (N' := 32) hx hb (hts (.arrayClass .int) (List.mem_of_getElem? (i := 4) rfl)) rfl hK hP hD hS hA (fun _ => rfl) (by decide) (by decide) (Nat.le_of_ble_eq_true rfl) (Nat.le_of_ble_eq_true rfl) (Nat.le_of_ble_eq_true rfl) dX3_init_7 0 rfl (fun _ h9 => h9) (fun q_1 H hP hD hS => ?_)
  replace hP : va_P D classes [(a0, .inr (3, [.null, .null, .null, .null, .int 0, .int 0, .int 0, .null, .null])), (q_1, .inl (cI, 32, .inl (fun _ => 0)))] H := hP
  replace hD : va_D A [(a0, .inr (3, [.null, .null, .null, .null, .int 0, .int 0, .int 0, .null, .null])), (q_1, .inl (cI, 32, .inl (fun _ => 0)))] := hD
  refine va_putF (D := D) (ci := 3) (v := .ref q_1) (ty := tyX3 1) (C := RX3) (T := TX3) (N := 9) hx hb hts iw_X3_init_X3 tyX3 tyX3_ok nmX3 hown hK hP hD hS 0 rfl rfl 1 (by decide) (hts (.fieldLink RX3 11 "SoldHouse$Memory" "now" "[I") (List.mem_of_getElem? (i := 5) rfl)) (fun _ h9 => h9) rfl hin rfl (by decide +kernel) rfl rfl (Nat.le_of_ble_eq_true rfl) dX3_init_9 (fun H locs hP hD hS => ?_)
  replace hP : va_P D classes [(a0, .inr (3, [.null, .ref q_1, .null, .null, .int 0, .int 0, .int 0, .null, .null])), (q_1, .inl (cI, 32, .inl (fun _ => 0)))] H := hP
  replace hD : va_D A [(a0, .inr (3, [.null, .ref q_1, .null, .null, .int 0, .int 0, .int 0, .null, .null])), (q_1, .inl (cI, 32, .inl (fun _ => 0)))] := hD
  refine lv_aload_n hx hb dX3_init_12 rfl (lv_at hl 0 rfl) ?_
  refine lv_bipush (v := 32) hx hb dX3_init_13 (by decide) ?_
  refine zz_newD (atype := .int) (a0 := (32, .inl (fun _ => 0))) (N' := 32) hx hb (hts (.arrayClass .int) (List.mem_of_getElem? (i := 4) rfl)) rfl hK hP hD hS hA (fun _ => rfl) (by decide) (by decide) (Nat.le_of_ble_eq_true rfl) (Nat.le_of_ble_eq_true rfl) (Nat.le_of_ble_eq_true rfl) dX3_init_15 (fun q_2 H hP hD hS => ?_)
  refine va_putF (D := D) (ci := 3) (v := .ref q_2) (ty := tyX3 2) (C := RX3) (T := TX3) (N := 9) hx hb hts iw_X3_init_X3 tyX3 tyX3_ok nmX3 hown hK hP hD hS 0 rfl rfl 2 (by decide) (hts (.fieldLink RX3 15 "SoldHouse$Memory" "ahead" "[I") (List.mem_of_getElem? (i := 6) rfl)) (fun _ h9 => h9) rfl hin rfl (by decide +kernel) rfl rfl (Nat.le_of_ble_eq_true rfl) dX3_init_17 (fun H locs hP hD hS => ?_)
  replace hP : va_P D classes [(a0, .inr (3, [.null, .ref q_1, .ref q_2, .null, .int 0, .int 0, .int 0, .null, .null])), (q_1, .inl (cI, 32, .inl (fun _ => 0)))] H := hP
  replace hD : va_D A [(a0, .inr (3, [.null, .ref q_1, .ref q_2, .null, .int 0, .int 0, .int 0, .null, .null])), (q_1, .inl (cI, 32, .inl (fun _ => 0)))] := hD
  refine lv_aload_n hx hb dX3_init_20 rfl (lv_at hl 0 rfl) ?_
  refine lv_bipush (v := 41) hx hb dX3_init_21 (by decide) ?_
  refine lv_bipush (v := 32) hx hb dX3_init_23 (by decide) ?_
  refine zz_mna (N' := 41) hx hb hown (hts (.classLink RX3 18 "[[I") (List.mem_of_getElem? (i := 7) rfl)) hAO (hts (.arrayClass .int) (List.mem_of_getElem? (i := 4) rfl)) (hK.2 0 _ rfl).2 hK hP hD hS hA (by decide) (by decide) (Nat.le_of_ble_eq_true rfl) (Nat.le_of_ble_eq_true rfl) (Nat.le_of_ble_eq_true rfl) dX3_init_25 (fun q_3 r_4 cG H hK2 hP hD hS => ?_)
  replace hK : va_K D classes [(cI, .int), (cB, .byte), (cL, .long), (cZ, .boolean), (cG, .array .int)] s := hK2
  clear hK2
  replace hP : va_P D classes [(a0, .inr (3, [.null, .ref q_1, .ref q_2, .null, .int 0, .int 0, .int 0, .null, .null])), (q_1, .inl (cI, 32, .inl (fun _ => 0))), (q_3, .inl (cG, 41, .inr (.inr (.inr (.inr (fun i => if i < 41 then some (r_4 i) else none)))))), ((r_4 0), .inl (cI, 32, .inl (fun _ => 0))), ((r_4 1), .inl (cI, 32, .inl (fun _ => 0)))] H := hP.sub [0, 1, 2, 3, 4] rfl
  replace hD : va_D A [(a0, .inr (3, [.null, .ref q_1, .ref q_2, .null, .int 0, .int 0, .int 0, .null, .null])), (q_1, .inl (cI, 32, .inl (fun _ => 0))), (q_3, .inl (cG, 41, .inr (.inr (.inr (.inr (fun i => if i < 41 then some (r_4 i) else none)))))), ((r_4 0), .inl (cI, 32, .inl (fun _ => 0))), ((r_4 1), .inl (cI, 32, .inl (fun _ => 0)))] := hD.sub [0, 1, 2, 3, 4] (by decide) rfl
  refine va_putF (D := D) (ci := 3) (v := .ref q_3) (ty := tyX3 3) (C := RX3) (T := TX3) (N := 9) hx hb hts iw_X3_init_X3 tyX3 tyX3_ok nmX3 hown hK hP hD hS 0 rfl rfl 3 (by decide) (hts (.fieldLink RX3 20 "SoldHouse$Memory" "kept" "[[I") (List.mem_of_getElem? (i := 8) rfl)) (fun _ h9 => h9) rfl hin rfl (by decide +kernel) rfl rfl (Nat.le_of_ble_eq_true rfl) dX3_init_29 (fun H locs hP hD hS => ?_)
  replace hP : va_P D classes [(a0, .inr (3, [.null, .ref q_1, .ref q_2, .ref q_3, .int 0, .int 0, .int 0, .null, .null])), (q_1, .inl (cI, 32, .inl (fun _ => 0))), (q_3, .inl (cG, 41, .inr (.inr (.inr (.inr (fun i => if i < 41 then some (r_4 i) else none)))))), ((r_4 0), .inl (cI, 32, .inl (fun _ => 0))), ((r_4 1), .inl (cI, 32, .inl (fun _ => 0)))] H := hP
  replace hD : va_D A [(a0, .inr (3, [.null, .ref q_1, .ref q_2, .ref q_3, .int 0, .int 0, .int 0, .null, .null])), (q_1, .inl (cI, 32, .inl (fun _ => 0))), (q_3, .inl (cG, 41, .inr (.inr (.inr (.inr (fun i => if i < 41 then some (r_4 i) else none)))))), ((r_4 0), .inl (cI, 32, .inl (fun _ => 0))), ((r_4 1), .inl (cI, 32, .inl (fun _ => 0)))] := hD
  refine lv_aload_n hx hb dX3_init_32 rfl (lv_at hl 0 rfl) ?_
  refine lv_iconst (v := 3) hx hb dX3_init_33 (by decide) ?_
  refine lv_bipush (v := 32) hx hb dX3_init_34 (by decide) ?_
  refine zz_mna (N' := 3) hx hb hown (hts (.classLink RX3 18 "[[I") (List.mem_of_getElem? (i := 7) rfl)) hAO (hts (.arrayClass .int) (List.mem_of_getElem? (i := 4) rfl)) (hK.2 0 _ rfl).2 hK hP hD hS hA (by decide) (by decide) (Nat.le_of_ble_eq_true rfl) (Nat.le_of_ble_eq_true rfl) (Nat.le_of_ble_eq_true rfl) dX3_init_36 (fun q_5 r_6 cH_7 H hK2 hP hD hS => ?_)
  obtain rfl : cG = cH_7 := Option.some.inj ((hK.2 4 _ rfl).2.symm.trans (hK2.2 5 _ rfl).2)
  clear hK2
  replace hP : va_P D classes [(a0, .inr (3, [.null, .ref q_1, .ref q_2, .ref q_3, .int 0, .int 0, .int 0, .null, .null])), (q_1, .inl (cI, 32, .inl (fun _ => 0))), (q_3, .inl (cG, 41, .inr (.inr (.inr (.inr (fun i => if i < 41 then some (r_4 i) else none)))))), ((r_4 0), .inl (cI, 32, .inl (fun _ => 0))), ((r_4 1), .inl (cI, 32, .inl (fun _ => 0))), (q_5, .inl (cG, 3, .inr (.inr (.inr (.inr (fun i => if i < 3 then some (r_6 i) else none)))))), ((r_6 0), .inl (cI, 32, .inl (fun _ => 0))), ((r_6 1), .inl (cI, 32, .inl (fun _ => 0))), ((r_6 2), .inl (cI, 32, .inl (fun _ => 0)))] H := hP.sub [0, 1, 2, 3, 4, 5, 6, 7, 8] rfl
  replace hD : va_D A [(a0, .inr (3, [.null, .ref q_1, .ref q_2, .ref q_3, .int 0, .int 0, .int 0, .null, .null])), (q_1, .inl (cI, 32, .inl (fun _ => 0))), (q_3, .inl (cG, 41, .inr (.inr (.inr (.inr (fun i => if i < 41 then some (r_4 i) else none)))))), ((r_4 0), .inl (cI, 32, .inl (fun _ => 0))), ((r_4 1), .inl (cI, 32, .inl (fun _ => 0))), (q_5, .inl (cG, 3, .inr (.inr (.inr (.inr (fun i => if i < 3 then some (r_6 i) else none)))))), ((r_6 0), .inl (cI, 32, .inl (fun _ => 0))), ((r_6 1), .inl (cI, 32, .inl (fun _ => 0))), ((r_6 2), .inl (cI, 32, .inl (fun _ => 0)))] := hD.sub [0, 1, 2, 3, 4, 5, 6, 7, 8] (by decide) rfl
  refine va_putF (D := D) (ci := 3) (v := .ref q_5) (ty := tyX3 7) (C := RX3) (T := TX3) (N := 9) hx hb hts iw_X3_init_X3 tyX3 tyX3_ok nmX3 hown hK hP hD hS 0 rfl rfl 7 (by decide) (hts (.fieldLink RX3 23 "SoldHouse$Memory" "box" "[[I") (List.mem_of_getElem? (i := 9) rfl)) (fun _ h9 => h9) rfl hin rfl (by decide +kernel) rfl rfl (Nat.le_of_ble_eq_true rfl) dX3_init_40 (fun H locs hP hD hS => ?_)
  replace hP : va_P D classes [(a0, .inr (3, [.null, .ref q_1, .ref q_2, .ref q_3, .int 0, .int 0, .int 0, .ref q_5, .null])), (q_1, .inl (cI, 32, .inl (fun _ => 0))), (q_3, .inl (cG, 41, .inr (.inr (.inr (.inr (fun i => if i < 41 then some (r_4 i) else none)))))), ((r_4 0), .inl (cI, 32, .inl (fun _ => 0))), ((r_4 1), .inl (cI, 32, .inl (fun _ => 0))), (q_5, .inl (cG, 3, .inr (.inr (.inr (.inr (fun i => if i < 3 then some (r_6 i) else none)))))), ((r_6 0), .inl (cI, 32, .inl (fun _ => 0))), ((r_6 1), .inl (cI, 32, .inl (fun _ => 0))), ((r_6 2), .inl (cI, 32, .inl (fun _ => 0)))] H := hP
  replace hD : va_D A [(a0, .inr (3, [.null, .ref q_1, .ref q_2, .ref q_3, .int 0, .int 0, .int 0, .ref q_5, .null])), (q_1, .inl (cI, 32, .inl (fun _ => 0))), (q_3, .inl (cG, 41, .inr (.inr (.inr (.inr (fun i => if i < 41 then some (r_4 i) else none)))))), ((r_4 0), .inl (cI, 32, .inl (fun _ => 0))), ((r_4 1), .inl (cI, 32, .inl (fun _ => 0))), (q_5, .inl (cG, 3, .inr (.inr (.inr (.inr (fun i => if i < 3 then some (r_6 i) else none)))))), ((r_6 0), .inl (cI, 32, .inl (fun _ => 0))), ((r_6 1), .inl (cI, 32, .inl (fun _ => 0))), ((r_6 2), .inl (cI, 32, .inl (fun _ => 0)))] := hD
  refine lv_aload_n hx hb dX3_init_43 rfl (lv_at hl 0 rfl) ?_
  refine lv_iconst (v := 3) hx hb dX3_init_44 (by decide) ?_
  refine zz_newC (atype := .boolean) (a0 := (3, .inl (fun _ => 0))) (N' := 3) hx hb (hts (.arrayClass .boolean) (List.mem_of_getElem? (i := 10) rfl)) rfl hK hP hD hS hA (fun _ => rfl) (by decide) (by decide) (Nat.le_of_ble_eq_true rfl) (Nat.le_of_ble_eq_true rfl) (Nat.le_of_ble_eq_true rfl) dX3_init_45 3 rfl (fun _ h9 => h9) (fun q_8 H hP hD hS => ?_)
  replace hP : va_P D classes [(a0, .inr (3, [.null, .ref q_1, .ref q_2, .ref q_3, .int 0, .int 0, .int 0, .ref q_5, .null])), (q_1, .inl (cI, 32, .inl (fun _ => 0))), (q_3, .inl (cG, 41, .inr (.inr (.inr (.inr (fun i => if i < 41 then some (r_4 i) else none)))))), ((r_4 0), .inl (cI, 32, .inl (fun _ => 0))), ((r_4 1), .inl (cI, 32, .inl (fun _ => 0))), (q_5, .inl (cG, 3, .inr (.inr (.inr (.inr (fun i => if i < 3 then some (r_6 i) else none)))))), ((r_6 0), .inl (cI, 32, .inl (fun _ => 0))), ((r_6 1), .inl (cI, 32, .inl (fun _ => 0))), ((r_6 2), .inl (cI, 32, .inl (fun _ => 0))), (q_8, .inl (cZ, 3, .inl (fun _ => 0)))] H := hP
  replace hD : va_D A [(a0, .inr (3, [.null, .ref q_1, .ref q_2, .ref q_3, .int 0, .int 0, .int 0, .ref q_5, .null])), (q_1, .inl (cI, 32, .inl (fun _ => 0))), (q_3, .inl (cG, 41, .inr (.inr (.inr (.inr (fun i => if i < 41 then some (r_4 i) else none)))))), ((r_4 0), .inl (cI, 32, .inl (fun _ => 0))), ((r_4 1), .inl (cI, 32, .inl (fun _ => 0))), (q_5, .inl (cG, 3, .inr (.inr (.inr (.inr (fun i => if i < 3 then some (r_6 i) else none)))))), ((r_6 0), .inl (cI, 32, .inl (fun _ => 0))), ((r_6 1), .inl (cI, 32, .inl (fun _ => 0))), ((r_6 2), .inl (cI, 32, .inl (fun _ => 0))), (q_8, .inl (cZ, 3, .inl (fun _ => 0)))] := hD
  refine va_putF (D := D) (ci := 3) (v := .ref q_8) (ty := tyX3 8) (C := RX3) (T := TX3) (N := 9) hx hb hts iw_X3_init_X3 tyX3 tyX3_ok nmX3 hown hK hP hD hS 0 rfl rfl 8 (by decide) (hts (.fieldLink RX3 26 "SoldHouse$Memory" "full" "[Z") (List.mem_of_getElem? (i := 11) rfl)) (fun _ h9 => h9) rfl hin rfl (by decide +kernel) rfl rfl (Nat.le_of_ble_eq_true rfl) dX3_init_47 (fun H locs hP hD hS => ?_)
  replace hP : va_P D classes [(a0, .inr (3, [.null, .ref q_1, .ref q_2, .ref q_3, .int 0, .int 0, .int 0, .ref q_5, .ref q_8])), (q_1, .inl (cI, 32, .inl (fun _ => 0))), (q_3, .inl (cG, 41, .inr (.inr (.inr (.inr (fun i => if i < 41 then some (r_4 i) else none)))))), ((r_4 0), .inl (cI, 32, .inl (fun _ => 0))), ((r_4 1), .inl (cI, 32, .inl (fun _ => 0))), (q_5, .inl (cG, 3, .inr (.inr (.inr (.inr (fun i => if i < 3 then some (r_6 i) else none)))))), ((r_6 0), .inl (cI, 32, .inl (fun _ => 0))), ((r_6 1), .inl (cI, 32, .inl (fun _ => 0))), ((r_6 2), .inl (cI, 32, .inl (fun _ => 0))), (q_8, .inl (cZ, 3, .inl (fun _ => 0)))] H := hP
  replace hD : va_D A [(a0, .inr (3, [.null, .ref q_1, .ref q_2, .ref q_3, .int 0, .int 0, .int 0, .ref q_5, .ref q_8])), (q_1, .inl (cI, 32, .inl (fun _ => 0))), (q_3, .inl (cG, 41, .inr (.inr (.inr (.inr (fun i => if i < 41 then some (r_4 i) else none)))))), ((r_4 0), .inl (cI, 32, .inl (fun _ => 0))), ((r_4 1), .inl (cI, 32, .inl (fun _ => 0))), (q_5, .inl (cG, 3, .inr (.inr (.inr (.inr (fun i => if i < 3 then some (r_6 i) else none)))))), ((r_6 0), .inl (cI, 32, .inl (fun _ => 0))), ((r_6 1), .inl (cI, 32, .inl (fun _ => 0))), ((r_6 2), .inl (cI, 32, .inl (fun _ => 0))), (q_8, .inl (cZ, 3, .inl (fun _ => 0)))] := hD
  refine lv_aload_n hx hb dX3_init_50 rfl (lv_at hl 0 rfl) ?_
  refine lv_aload_n hx hb dX3_init_51 rfl (lv_at hl 1 rfl) ?_
  refine va_putF (D := D) (ci := 3) (v := .ref aF) (ty := tyX3 0) (C := RX3) (T := TX3) (N := 9) hx hb hts iw_X3_init_X3 tyX3 tyX3_ok nmX3 hown hK hP hD hS 0 rfl rfl 0 (by decide) (hts (.fieldLink RX3 30 "SoldHouse$Memory" "floor" "LSoldHouse$Floor;") (List.mem_of_getElem? (i := 12) rfl)) (fun _ h9 => h9) rfl hin rfl (by decide +kernel) rfl rfl (Nat.le_of_ble_eq_true rfl) dX3_init_52 (fun H locs hP hD hS => ?_)
  replace hP : va_P D classes [(a0, .inr (3, [.ref aF, .ref q_1, .ref q_2, .ref q_3, .int 0, .int 0, .int 0, .ref q_5, .ref q_8])), (q_1, .inl (cI, 32, .inl (fun _ => 0))), (q_3, .inl (cG, 41, .inr (.inr (.inr (.inr (fun i => if i < 41 then some (r_4 i) else none)))))), ((r_4 0), .inl (cI, 32, .inl (fun _ => 0))), ((r_4 1), .inl (cI, 32, .inl (fun _ => 0))), (q_5, .inl (cG, 3, .inr (.inr (.inr (.inr (fun i => if i < 3 then some (r_6 i) else none)))))), ((r_6 0), .inl (cI, 32, .inl (fun _ => 0))), ((r_6 1), .inl (cI, 32, .inl (fun _ => 0))), ((r_6 2), .inl (cI, 32, .inl (fun _ => 0))), (q_8, .inl (cZ, 3, .inl (fun _ => 0)))] H := hP
  replace hD : va_D A [(a0, .inr (3, [.ref aF, .ref q_1, .ref q_2, .ref q_3, .int 0, .int 0, .int 0, .ref q_5, .ref q_8])), (q_1, .inl (cI, 32, .inl (fun _ => 0))), (q_3, .inl (cG, 41, .inr (.inr (.inr (.inr (fun i => if i < 41 then some (r_4 i) else none)))))), ((r_4 0), .inl (cI, 32, .inl (fun _ => 0))), ((r_4 1), .inl (cI, 32, .inl (fun _ => 0))), (q_5, .inl (cG, 3, .inr (.inr (.inr (.inr (fun i => if i < 3 then some (r_6 i) else none)))))), ((r_6 0), .inl (cI, 32, .inl (fun _ => 0))), ((r_6 1), .inl (cI, 32, .inl (fun _ => 0))), ((r_6 2), .inl (cI, 32, .inl (fun _ => 0))), (q_8, .inl (cZ, 3, .inl (fun _ => 0)))] := hD
  have hP9 := hP.sub (ws' := [(a0, .inr (3, [.ref aF, .ref q_1, .ref q_2, .ref q_3, .int 0, .int 0, .int 0, .ref q_5, .ref q_8])), (q_1, .inl (cI, 32, .inl (fun _ => 0))), (q_3, .inl (cG, 41, .inr (.inr (.inr (.inr (fun i => if i < 41 then some (r_4 i) else none)))))), ((r_4 0), .inl (cI, 32, .inl (fun _ => 0))), ((r_4 1), .inl (cI, 32, .inl (fun _ => 0))), (q_5, .inl (cG, 3, .inr (.inr (.inr (.inr (fun i => if i < 3 then some (r_6 i) else none)))))), ((r_6 0), .inl (cI, 32, .inl (fun _ => 0))), ((r_6 1), .inl (cI, 32, .inl (fun _ => 0))), ((r_6 2), .inl (cI, 32, .inl (fun _ => 0))), (q_8, .inl (cZ, 3, .inl (fun _ => 0)))]) [0, 1, 2, 3, 4, 5, 6, 7, 8, 9] rfl
  have hD9 := hD.sub (ws' := [(a0, .inr (3, [.ref aF, .ref q_1, .ref q_2, .ref q_3, .int 0, .int 0, .int 0, .ref q_5, .ref q_8])), (q_1, .inl (cI, 32, .inl (fun _ => 0))), (q_3, .inl (cG, 41, .inr (.inr (.inr (.inr (fun i => if i < 41 then some (r_4 i) else none)))))), ((r_4 0), .inl (cI, 32, .inl (fun _ => 0))), ((r_4 1), .inl (cI, 32, .inl (fun _ => 0))), (q_5, .inl (cG, 3, .inr (.inr (.inr (.inr (fun i => if i < 3 then some (r_6 i) else none)))))), ((r_6 0), .inl (cI, 32, .inl (fun _ => 0))), ((r_6 1), .inl (cI, 32, .inl (fun _ => 0))), ((r_6 2), .inl (cI, 32, .inl (fun _ => 0))), (q_8, .inl (cZ, 3, .inl (fun _ => 0)))]) [0, 1, 2, 3, 4, 5, 6, 7, 8, 9] (by decide) rfl
  refine W.widen (k := 49) (n := 1519) (Nat.le_of_ble_eq_true rfl) (Nat.le_of_ble_eq_true rfl) ?_
  exact W.vret hx hb hr (fun t ht hW => ⟨⟨(), rfl, trivial, ⟨cG, va_K.moved hW.alike hK, q_1, q_2, q_3, q_5, q_8, (r_4 0), (r_4 1), (r_6 0), (r_6 1), (r_6 2), (fun _ => 0), (fun _ => 0), (fun _ => 0), (fun _ => 0), (fun _ => 0), (fun _ => 0), (fun _ => 0), (fun i => if i < 41 then some (r_4 i) else none), (fun i => if i < 3 then some (r_6 i) else none), rfl, rfl, rfl, rfl, rfl, by rw [ht]; exact hP9, hD9⟩⟩, hS.F ht⟩) hS.2.2 dX3_init_55
set_option maxHeartbeats 4000000 in
set_option maxRecDepth 100000 in
theorem i_Trader (l : Launch) (D : va_G) (cI : ClassId) (cB : ClassId) (cL : ClassId) (cZ : ClassId) (a0 : Nat) (aM : Nat) (sz : Nat) : Met l yX10_init wsX10_init ({ frames := 1, cells := 0, slots := 0, locals := 12 }) (xp D [(cI, .int), (cB, .byte), (cL, .long), (cZ, .boolean)] [(a0, .inr (10, [.null]))] sz [] [.ref a0, .ref aM]) (va_Qv (fun _ : Unit => True) (fun (_ : Unit) (t : State) => xB D (va_A [(a0, .inr (10, [.null]))] sz) [(a0, .inr (10, [.ref aM]))] t) (va_A [(a0, .inr (10, [.null]))] sz)) 0 0 (va_A [(a0, .inr (10, [.null]))] sz) := by
  refine Met.ofW (cc := cX10_init) (maxL := 2) (ret := none) (by decide) rfl ?_
  intro p e s m args below meth c s₁ B hml hv
  obtain ⟨rfl, hsz, hP, hK, hD0, hNw⟩ := hv
  have hx := B.exec
  have hb := B.bytes
  have hr := B.returns
  have hts := atoms_spec (ws := wsX10_init) B.pre
  have hown : s.vm.findClass RX10 = some m.cls := findClass_of_methodNamed B.named
  have hlocks := B.notSynchronized
  have hin : meth.name = "<init>" := (name_of_methodNamed B.named B.method).1
  subst hsz
  have hD := hD0.self (sz := s.heap.size)
  clear hD0
  generalize hAe : va_A [(a0, .inr (10, [.null]))] s.heap.size = A at hD ⊢
  have hA : ∀ q : Nat, s.heap.size ≤ q → A q := fun q h => by rw [← hAe]; exact Or.inr h
  have hS : va_S A s.heap s.heap [] := va_S.rf
  clear hAe
  obtain ⟨H, hH⟩ : ∃ H : Heap, H = s.heap := ⟨_, rfl⟩
  obtain ⟨locs, hlocs⟩ : ∃ L : List Loc, L = [] := ⟨_, rfl⟩
  replace hP : va_P D classes [(a0, .inr (10, [.null]))] H := by rw [hH]; exact hP
  replace hS : va_S A s.heap H locs := by rw [hH, hlocs]; exact hS
  rw [← hH, ← hlocs]
  clear hlocs hH
  have hl := lv_entry ([.ref a0, .ref aM]) (n := 2) (Nat.le_of_ble_eq_true rfl)
  rw [lg_entry_eq]
  generalize (lg_sl ([.ref a0, .ref aM]) ++ List.replicate (2 - (lg_sl ([.ref a0, .ref aM])).length) Slot.unset).toArray = ls at hl ⊢
  replace hl : lv_has ls 2 [(0, .ref a0), (1, .ref aM)] := hl
  refine lv_aload_n hx hb dX10_init_0 rfl (lv_at hl 0 rfl) ?_
  refine W.objInit hx hb hown (hts (.methodLink RX10 3 objectInit) (List.mem_of_getElem? (i := 1) rfl)) (hts (.instanceMethod objectInit) (List.mem_of_getElem? (i := 2) rfl)) (hts (.code objectInit ⟨#[0xb1]⟩ 1 none) (List.mem_of_getElem? (i := 3) rfl)) rfl (by rw [hml]; exact hl.1) rfl dX10_init_1 (Nat.le_of_ble_eq_true rfl) (Nat.le_of_ble_eq_true rfl) ?_
  refine W.eq (g2 := F0 m 4 ls []) rfl ?_
  refine lv_aload_n hx hb dX10_init_4 rfl (lv_at hl 0 rfl) ?_
  refine lv_aload_n hx hb dX10_init_5 rfl (lv_at hl 1 rfl) ?_
  refine va_putF (D := D) (ci := 10) (v := .ref aM) (ty := tyX10 0) (C := RX10) (T := TX10) (N := 1) hx hb hts iw_X10_init_X10 tyX10 tyX10_ok nmX10 hown hK hP hD hS 0 rfl rfl 0 (by decide) (hts (.fieldLink RX10 9 "SoldHouse$Trader" "memory" "LSoldHouse$Memory;") (List.mem_of_getElem? (i := 4) rfl)) (fun _ h9 => h9) rfl hin rfl (by decide +kernel) rfl rfl (Nat.le_of_ble_eq_true rfl) dX10_init_6 (fun H locs hP hD hS => ?_)
  replace hP : va_P D classes [(a0, .inr (10, [.ref aM]))] H := hP
  replace hD : va_D A [(a0, .inr (10, [.ref aM]))] := hD
  have hP9 := hP.sub (ws' := [(a0, .inr (10, [.ref aM]))]) [0] rfl
  have hD9 := hD.sub (ws' := [(a0, .inr (10, [.ref aM]))]) [0] (by decide) rfl
  refine W.widen (k := 0) (n := 0) (Nat.le_of_ble_eq_true rfl) (Nat.le_of_ble_eq_true rfl) ?_
  exact W.vret hx hb hr (fun t ht hW => ⟨⟨(), rfl, trivial, ⟨by rw [ht]; exact hP9, hD9⟩⟩, hS.F ht⟩) hS.2.2 dX10_init_9
